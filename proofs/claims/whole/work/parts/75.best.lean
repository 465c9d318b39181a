/-! the best mode -/
abbrev kwS : Type := Int32 × Int32 × (Nat → Int32) × (Nat → Int32) × (Nat → Int32) × (Nat → Int32) × (Nat → Int32) × (Nat → Int32) × (Nat → Int32) × (Nat → Int32) × (Nat → Int32) × (Nat → Int32) × (Nat → Int32) × Int64 × (Nat → Int32) × (Nat → Int32) × (Nat → Int32) × (Nat → Int32) × (Nat → Int32) × (Nat → Int32) × (Nat → Int32) × (Nat → Int32)
def wS (S : Nat → Nat → Int32) (z : kwS) : Nat → Nat → Int32 := (va_up (va_up (va_up (va_up (va_up (va_up (va_up (va_up (va_up (va_up (va_up (va_up (va_up (va_up (va_up (va_up (va_up (va_up (va_up S 0 z.2.2.1) 5 z.2.2.2.1) 6 z.2.2.2.2.1) 11 z.2.2.2.2.2.1) 15 z.2.2.2.2.2.2.1) 12 z.2.2.2.2.2.2.2.1) 16 z.2.2.2.2.2.2.2.2.1) 13 z.2.2.2.2.2.2.2.2.2.1) 17 z.2.2.2.2.2.2.2.2.2.2.1) 14 z.2.2.2.2.2.2.2.2.2.2.2.1) 18 z.2.2.2.2.2.2.2.2.2.2.2.2.1) 19 z.2.2.2.2.2.2.2.2.2.2.2.2.2.2.1) 22 z.2.2.2.2.2.2.2.2.2.2.2.2.2.2.2.1) 20 z.2.2.2.2.2.2.2.2.2.2.2.2.2.2.2.2.1) 23 z.2.2.2.2.2.2.2.2.2.2.2.2.2.2.2.2.2.1) 21 z.2.2.2.2.2.2.2.2.2.2.2.2.2.2.2.2.2.2.1) 24 z.2.2.2.2.2.2.2.2.2.2.2.2.2.2.2.2.2.2.2.1) 9 z.2.2.2.2.2.2.2.2.2.2.2.2.2.2.2.2.2.2.2.2.1) 25 z.2.2.2.2.2.2.2.2.2.2.2.2.2.2.2.2.2.2.2.2.2)
theorem wS_0 {S : Nat → Nat → Int32} {z : kwS} : wS S z 0 = z.2.2.1 := by
  unfold wS
  rw [va_n (show (0 : Nat) ≠ 25 by decide), va_n (show (0 : Nat) ≠ 9 by decide), va_n (show (0 : Nat) ≠ 24 by decide), va_n (show (0 : Nat) ≠ 21 by decide), va_n (show (0 : Nat) ≠ 23 by decide), va_n (show (0 : Nat) ≠ 20 by decide), va_n (show (0 : Nat) ≠ 22 by decide), va_n (show (0 : Nat) ≠ 19 by decide), va_n (show (0 : Nat) ≠ 18 by decide), va_n (show (0 : Nat) ≠ 14 by decide), va_n (show (0 : Nat) ≠ 17 by decide), va_n (show (0 : Nat) ≠ 13 by decide), va_n (show (0 : Nat) ≠ 16 by decide), va_n (show (0 : Nat) ≠ 12 by decide), va_n (show (0 : Nat) ≠ 15 by decide), va_n (show (0 : Nat) ≠ 11 by decide), va_n (show (0 : Nat) ≠ 6 by decide), va_n (show (0 : Nat) ≠ 5 by decide), va_s]
theorem wS_5 {S : Nat → Nat → Int32} {z : kwS} : wS S z 5 = z.2.2.2.1 := by
  unfold wS
  rw [va_n (show (5 : Nat) ≠ 25 by decide), va_n (show (5 : Nat) ≠ 9 by decide), va_n (show (5 : Nat) ≠ 24 by decide), va_n (show (5 : Nat) ≠ 21 by decide), va_n (show (5 : Nat) ≠ 23 by decide), va_n (show (5 : Nat) ≠ 20 by decide), va_n (show (5 : Nat) ≠ 22 by decide), va_n (show (5 : Nat) ≠ 19 by decide), va_n (show (5 : Nat) ≠ 18 by decide), va_n (show (5 : Nat) ≠ 14 by decide), va_n (show (5 : Nat) ≠ 17 by decide), va_n (show (5 : Nat) ≠ 13 by decide), va_n (show (5 : Nat) ≠ 16 by decide), va_n (show (5 : Nat) ≠ 12 by decide), va_n (show (5 : Nat) ≠ 15 by decide), va_n (show (5 : Nat) ≠ 11 by decide), va_n (show (5 : Nat) ≠ 6 by decide), va_s]
theorem wS_6 {S : Nat → Nat → Int32} {z : kwS} : wS S z 6 = z.2.2.2.2.1 := by
  unfold wS
  rw [va_n (show (6 : Nat) ≠ 25 by decide), va_n (show (6 : Nat) ≠ 9 by decide), va_n (show (6 : Nat) ≠ 24 by decide), va_n (show (6 : Nat) ≠ 21 by decide), va_n (show (6 : Nat) ≠ 23 by decide), va_n (show (6 : Nat) ≠ 20 by decide), va_n (show (6 : Nat) ≠ 22 by decide), va_n (show (6 : Nat) ≠ 19 by decide), va_n (show (6 : Nat) ≠ 18 by decide), va_n (show (6 : Nat) ≠ 14 by decide), va_n (show (6 : Nat) ≠ 17 by decide), va_n (show (6 : Nat) ≠ 13 by decide), va_n (show (6 : Nat) ≠ 16 by decide), va_n (show (6 : Nat) ≠ 12 by decide), va_n (show (6 : Nat) ≠ 15 by decide), va_n (show (6 : Nat) ≠ 11 by decide), va_s]
theorem wS_11 {S : Nat → Nat → Int32} {z : kwS} : wS S z 11 = z.2.2.2.2.2.1 := by
  unfold wS
  rw [va_n (show (11 : Nat) ≠ 25 by decide), va_n (show (11 : Nat) ≠ 9 by decide), va_n (show (11 : Nat) ≠ 24 by decide), va_n (show (11 : Nat) ≠ 21 by decide), va_n (show (11 : Nat) ≠ 23 by decide), va_n (show (11 : Nat) ≠ 20 by decide), va_n (show (11 : Nat) ≠ 22 by decide), va_n (show (11 : Nat) ≠ 19 by decide), va_n (show (11 : Nat) ≠ 18 by decide), va_n (show (11 : Nat) ≠ 14 by decide), va_n (show (11 : Nat) ≠ 17 by decide), va_n (show (11 : Nat) ≠ 13 by decide), va_n (show (11 : Nat) ≠ 16 by decide), va_n (show (11 : Nat) ≠ 12 by decide), va_n (show (11 : Nat) ≠ 15 by decide), va_s]
theorem wS_15 {S : Nat → Nat → Int32} {z : kwS} : wS S z 15 = z.2.2.2.2.2.2.1 := by
  unfold wS
  rw [va_n (show (15 : Nat) ≠ 25 by decide), va_n (show (15 : Nat) ≠ 9 by decide), va_n (show (15 : Nat) ≠ 24 by decide), va_n (show (15 : Nat) ≠ 21 by decide), va_n (show (15 : Nat) ≠ 23 by decide), va_n (show (15 : Nat) ≠ 20 by decide), va_n (show (15 : Nat) ≠ 22 by decide), va_n (show (15 : Nat) ≠ 19 by decide), va_n (show (15 : Nat) ≠ 18 by decide), va_n (show (15 : Nat) ≠ 14 by decide), va_n (show (15 : Nat) ≠ 17 by decide), va_n (show (15 : Nat) ≠ 13 by decide), va_n (show (15 : Nat) ≠ 16 by decide), va_n (show (15 : Nat) ≠ 12 by decide), va_s]
theorem wS_12 {S : Nat → Nat → Int32} {z : kwS} : wS S z 12 = z.2.2.2.2.2.2.2.1 := by
  unfold wS
  rw [va_n (show (12 : Nat) ≠ 25 by decide), va_n (show (12 : Nat) ≠ 9 by decide), va_n (show (12 : Nat) ≠ 24 by decide), va_n (show (12 : Nat) ≠ 21 by decide), va_n (show (12 : Nat) ≠ 23 by decide), va_n (show (12 : Nat) ≠ 20 by decide), va_n (show (12 : Nat) ≠ 22 by decide), va_n (show (12 : Nat) ≠ 19 by decide), va_n (show (12 : Nat) ≠ 18 by decide), va_n (show (12 : Nat) ≠ 14 by decide), va_n (show (12 : Nat) ≠ 17 by decide), va_n (show (12 : Nat) ≠ 13 by decide), va_n (show (12 : Nat) ≠ 16 by decide), va_s]
theorem wS_16 {S : Nat → Nat → Int32} {z : kwS} : wS S z 16 = z.2.2.2.2.2.2.2.2.1 := by
  unfold wS
  rw [va_n (show (16 : Nat) ≠ 25 by decide), va_n (show (16 : Nat) ≠ 9 by decide), va_n (show (16 : Nat) ≠ 24 by decide), va_n (show (16 : Nat) ≠ 21 by decide), va_n (show (16 : Nat) ≠ 23 by decide), va_n (show (16 : Nat) ≠ 20 by decide), va_n (show (16 : Nat) ≠ 22 by decide), va_n (show (16 : Nat) ≠ 19 by decide), va_n (show (16 : Nat) ≠ 18 by decide), va_n (show (16 : Nat) ≠ 14 by decide), va_n (show (16 : Nat) ≠ 17 by decide), va_n (show (16 : Nat) ≠ 13 by decide), va_s]
theorem wS_13 {S : Nat → Nat → Int32} {z : kwS} : wS S z 13 = z.2.2.2.2.2.2.2.2.2.1 := by
  unfold wS
  rw [va_n (show (13 : Nat) ≠ 25 by decide), va_n (show (13 : Nat) ≠ 9 by decide), va_n (show (13 : Nat) ≠ 24 by decide), va_n (show (13 : Nat) ≠ 21 by decide), va_n (show (13 : Nat) ≠ 23 by decide), va_n (show (13 : Nat) ≠ 20 by decide), va_n (show (13 : Nat) ≠ 22 by decide), va_n (show (13 : Nat) ≠ 19 by decide), va_n (show (13 : Nat) ≠ 18 by decide), va_n (show (13 : Nat) ≠ 14 by decide), va_n (show (13 : Nat) ≠ 17 by decide), va_s]
theorem wS_17 {S : Nat → Nat → Int32} {z : kwS} : wS S z 17 = z.2.2.2.2.2.2.2.2.2.2.1 := by
  unfold wS
  rw [va_n (show (17 : Nat) ≠ 25 by decide), va_n (show (17 : Nat) ≠ 9 by decide), va_n (show (17 : Nat) ≠ 24 by decide), va_n (show (17 : Nat) ≠ 21 by decide), va_n (show (17 : Nat) ≠ 23 by decide), va_n (show (17 : Nat) ≠ 20 by decide), va_n (show (17 : Nat) ≠ 22 by decide), va_n (show (17 : Nat) ≠ 19 by decide), va_n (show (17 : Nat) ≠ 18 by decide), va_n (show (17 : Nat) ≠ 14 by decide), va_s]
theorem wS_14 {S : Nat → Nat → Int32} {z : kwS} : wS S z 14 = z.2.2.2.2.2.2.2.2.2.2.2.1 := by
  unfold wS
  rw [va_n (show (14 : Nat) ≠ 25 by decide), va_n (show (14 : Nat) ≠ 9 by decide), va_n (show (14 : Nat) ≠ 24 by decide), va_n (show (14 : Nat) ≠ 21 by decide), va_n (show (14 : Nat) ≠ 23 by decide), va_n (show (14 : Nat) ≠ 20 by decide), va_n (show (14 : Nat) ≠ 22 by decide), va_n (show (14 : Nat) ≠ 19 by decide), va_n (show (14 : Nat) ≠ 18 by decide), va_s]
theorem wS_18 {S : Nat → Nat → Int32} {z : kwS} : wS S z 18 = z.2.2.2.2.2.2.2.2.2.2.2.2.1 := by
  unfold wS
  rw [va_n (show (18 : Nat) ≠ 25 by decide), va_n (show (18 : Nat) ≠ 9 by decide), va_n (show (18 : Nat) ≠ 24 by decide), va_n (show (18 : Nat) ≠ 21 by decide), va_n (show (18 : Nat) ≠ 23 by decide), va_n (show (18 : Nat) ≠ 20 by decide), va_n (show (18 : Nat) ≠ 22 by decide), va_n (show (18 : Nat) ≠ 19 by decide), va_s]
theorem wS_19 {S : Nat → Nat → Int32} {z : kwS} : wS S z 19 = z.2.2.2.2.2.2.2.2.2.2.2.2.2.2.1 := by
  unfold wS
  rw [va_n (show (19 : Nat) ≠ 25 by decide), va_n (show (19 : Nat) ≠ 9 by decide), va_n (show (19 : Nat) ≠ 24 by decide), va_n (show (19 : Nat) ≠ 21 by decide), va_n (show (19 : Nat) ≠ 23 by decide), va_n (show (19 : Nat) ≠ 20 by decide), va_n (show (19 : Nat) ≠ 22 by decide), va_s]
theorem wS_22 {S : Nat → Nat → Int32} {z : kwS} : wS S z 22 = z.2.2.2.2.2.2.2.2.2.2.2.2.2.2.2.1 := by
  unfold wS
  rw [va_n (show (22 : Nat) ≠ 25 by decide), va_n (show (22 : Nat) ≠ 9 by decide), va_n (show (22 : Nat) ≠ 24 by decide), va_n (show (22 : Nat) ≠ 21 by decide), va_n (show (22 : Nat) ≠ 23 by decide), va_n (show (22 : Nat) ≠ 20 by decide), va_s]
theorem wS_20 {S : Nat → Nat → Int32} {z : kwS} : wS S z 20 = z.2.2.2.2.2.2.2.2.2.2.2.2.2.2.2.2.1 := by
  unfold wS
  rw [va_n (show (20 : Nat) ≠ 25 by decide), va_n (show (20 : Nat) ≠ 9 by decide), va_n (show (20 : Nat) ≠ 24 by decide), va_n (show (20 : Nat) ≠ 21 by decide), va_n (show (20 : Nat) ≠ 23 by decide), va_s]
theorem wS_23 {S : Nat → Nat → Int32} {z : kwS} : wS S z 23 = z.2.2.2.2.2.2.2.2.2.2.2.2.2.2.2.2.2.1 := by
  unfold wS
  rw [va_n (show (23 : Nat) ≠ 25 by decide), va_n (show (23 : Nat) ≠ 9 by decide), va_n (show (23 : Nat) ≠ 24 by decide), va_n (show (23 : Nat) ≠ 21 by decide), va_s]
theorem wS_21 {S : Nat → Nat → Int32} {z : kwS} : wS S z 21 = z.2.2.2.2.2.2.2.2.2.2.2.2.2.2.2.2.2.2.1 := by
  unfold wS
  rw [va_n (show (21 : Nat) ≠ 25 by decide), va_n (show (21 : Nat) ≠ 9 by decide), va_n (show (21 : Nat) ≠ 24 by decide), va_s]
theorem wS_24 {S : Nat → Nat → Int32} {z : kwS} : wS S z 24 = z.2.2.2.2.2.2.2.2.2.2.2.2.2.2.2.2.2.2.2.1 := by
  unfold wS
  rw [va_n (show (24 : Nat) ≠ 25 by decide), va_n (show (24 : Nat) ≠ 9 by decide), va_s]
theorem wS_9 {S : Nat → Nat → Int32} {z : kwS} : wS S z 9 = z.2.2.2.2.2.2.2.2.2.2.2.2.2.2.2.2.2.2.2.2.1 := by
  unfold wS
  rw [va_n (show (9 : Nat) ≠ 25 by decide), va_s]
theorem wS_25 {S : Nat → Nat → Int32} {z : kwS} : wS S z 25 = z.2.2.2.2.2.2.2.2.2.2.2.2.2.2.2.2.2.2.2.2.2 := by
  unfold wS
  rw [va_s]
theorem wS_lo {S : Nat → Nat → Int32} {z : kwS} {a : Nat} (h : a = 1 ∨ a = 2 ∨ a = 3 ∨ a = 4 ∨ a = 7 ∨ a = 8 ∨ a = 10) : wS S z a = S a := by
  unfold wS
  rw [va_n (show a ≠ 25 by omega), va_n (show a ≠ 9 by omega), va_n (show a ≠ 24 by omega), va_n (show a ≠ 21 by omega), va_n (show a ≠ 23 by omega), va_n (show a ≠ 20 by omega), va_n (show a ≠ 22 by omega), va_n (show a ≠ 19 by omega), va_n (show a ≠ 18 by omega), va_n (show a ≠ 14 by omega), va_n (show a ≠ 17 by omega), va_n (show a ≠ 13 by omega), va_n (show a ≠ 16 by omega), va_n (show a ≠ 12 by omega), va_n (show a ≠ 15 by omega), va_n (show a ≠ 11 by omega), va_n (show a ≠ 6 by omega), va_n (show a ≠ 5 by omega), va_n (show a ≠ 0 by omega)]
theorem wS_step {T : Int} {S : Nat → Nat → Int32} {z : kwS} {w : Nat → Int64} (h : kRel T (wS S z) z.2.2.2.2.2.2.2.2.2.2.2.2.2.1 w) (hn : kRn 0 w) (hT : 0 ≤ T ∧ T ≤ 30000) (f : Nat → Int32) (i2 : Int32) (s2 : Int32) : kRel (T + 1) (wS S (i2, s2, (mnR (wS S z) z.2.2.2.2.2.2.2.2.2.2.2.2.2.1).1, (mnR (wS S z) z.2.2.2.2.2.2.2.2.2.2.2.2.2.1).2.1, (mnR (wS S z) z.2.2.2.2.2.2.2.2.2.2.2.2.2.1).2.2.1, (mnR (wS S z) z.2.2.2.2.2.2.2.2.2.2.2.2.2.1).2.2.2.2.2.2.2.2.2.2.2.2.1, (mnR (wS S z) z.2.2.2.2.2.2.2.2.2.2.2.2.2.1).2.2.2.2.2.2.2.2.2.2.2.2.2.1, (mnR (wS S z) z.2.2.2.2.2.2.2.2.2.2.2.2.2.1).2.2.2.2.2.2.2.2.2.2.2.2.2.2.1, (mnR (wS S z) z.2.2.2.2.2.2.2.2.2.2.2.2.2.1).2.2.2.2.2.2.2.2.2.2.2.2.2.2.2.1, (mnR (wS S z) z.2.2.2.2.2.2.2.2.2.2.2.2.2.1).2.2.2.2.2.2.2.2.2.2.2.2.2.2.2.2.1, (mnR (wS S z) z.2.2.2.2.2.2.2.2.2.2.2.2.2.1).2.2.2.2.2.2.2.2.2.2.2.2.2.2.2.2.2.1, (mnR (wS S z) z.2.2.2.2.2.2.2.2.2.2.2.2.2.1).2.2.2.2.2.2.2.2.2.2.2.2.2.2.2.2.2.2.1, (mnR (wS S z) z.2.2.2.2.2.2.2.2.2.2.2.2.2.1).2.2.2.2.2.2.2.2.2.2.2.2.2.2.2.2.2.2.2, (mnR (wS S z) z.2.2.2.2.2.2.2.2.2.2.2.2.2.1).2.2.2.1, (mnR (wS S z) z.2.2.2.2.2.2.2.2.2.2.2.2.2.1).2.2.2.2.1, (mnR (wS S z) z.2.2.2.2.2.2.2.2.2.2.2.2.2.1).2.2.2.2.2.1, (mnR (wS S z) z.2.2.2.2.2.2.2.2.2.2.2.2.2.1).2.2.2.2.2.2.1, (mnR (wS S z) z.2.2.2.2.2.2.2.2.2.2.2.2.2.1).2.2.2.2.2.2.2.1, (mnR (wS S z) z.2.2.2.2.2.2.2.2.2.2.2.2.2.1).2.2.2.2.2.2.2.2.1, (mnR (wS S z) z.2.2.2.2.2.2.2.2.2.2.2.2.2.1).2.2.2.2.2.2.2.2.2.1, (mnR (wS S z) z.2.2.2.2.2.2.2.2.2.2.2.2.2.1).2.2.2.2.2.2.2.2.2.2.1, (mnR (wS S z) z.2.2.2.2.2.2.2.2.2.2.2.2.2.1).2.2.2.2.2.2.2.2.2.2.2.1)) (mnR (wS S z) z.2.2.2.2.2.2.2.2.2.2.2.2.2.1).2.2.2.1 (s_X11_minute f w) ∧ kRn 0 (s_X11_minute f w) := by
  obtain ⟨k1, k2⟩ := h.minute hn hT f
  generalize mnR (wS S z) z.2.2.2.2.2.2.2.2.2.2.2.2.2.1 = r at k1 ⊢
  obtain ⟨x0, x5, x6, xJ, x19, x22, x20, x23, x21, x24, x9, x25, x11, x15, x12, x16, x13, x17, x14, x18⟩ := r
  refine ⟨k1.cgA (fun a ha => ?_), k2⟩
  exact
    match a, ha with
    | 0, _ => wS_0.trans (mnS_0 (S := wS S z) (r := (x0, x5, x6, xJ, x19, x22, x20, x23, x21, x24, x9, x25, x11, x15, x12, x16, x13, x17, x14, x18))).symm
    | 1, _ => ((wS_lo (by decide)).trans (wS_lo (by decide)).symm).trans (mnS_lo (by decide)).symm
    | 2, _ => ((wS_lo (by decide)).trans (wS_lo (by decide)).symm).trans (mnS_lo (by decide)).symm
    | 3, _ => ((wS_lo (by decide)).trans (wS_lo (by decide)).symm).trans (mnS_lo (by decide)).symm
    | 4, _ => ((wS_lo (by decide)).trans (wS_lo (by decide)).symm).trans (mnS_lo (by decide)).symm
    | 5, _ => wS_5.trans (mnS_5 (S := wS S z) (r := (x0, x5, x6, xJ, x19, x22, x20, x23, x21, x24, x9, x25, x11, x15, x12, x16, x13, x17, x14, x18))).symm
    | 6, _ => wS_6.trans (mnS_6 (S := wS S z) (r := (x0, x5, x6, xJ, x19, x22, x20, x23, x21, x24, x9, x25, x11, x15, x12, x16, x13, x17, x14, x18))).symm
    | 7, _ => ((wS_lo (by decide)).trans (wS_lo (by decide)).symm).trans (mnS_lo (by decide)).symm
    | 8, _ => ((wS_lo (by decide)).trans (wS_lo (by decide)).symm).trans (mnS_lo (by decide)).symm
    | 9, _ => wS_9.trans (mnS_9 (S := wS S z) (r := (x0, x5, x6, xJ, x19, x22, x20, x23, x21, x24, x9, x25, x11, x15, x12, x16, x13, x17, x14, x18))).symm
    | 10, _ => ((wS_lo (by decide)).trans (wS_lo (by decide)).symm).trans (mnS_lo (by decide)).symm
    | 11, _ => wS_11.trans (mnS_11 (S := wS S z) (r := (x0, x5, x6, xJ, x19, x22, x20, x23, x21, x24, x9, x25, x11, x15, x12, x16, x13, x17, x14, x18))).symm
    | 12, _ => wS_12.trans (mnS_12 (S := wS S z) (r := (x0, x5, x6, xJ, x19, x22, x20, x23, x21, x24, x9, x25, x11, x15, x12, x16, x13, x17, x14, x18))).symm
    | 13, _ => wS_13.trans (mnS_13 (S := wS S z) (r := (x0, x5, x6, xJ, x19, x22, x20, x23, x21, x24, x9, x25, x11, x15, x12, x16, x13, x17, x14, x18))).symm
    | 14, _ => wS_14.trans (mnS_14 (S := wS S z) (r := (x0, x5, x6, xJ, x19, x22, x20, x23, x21, x24, x9, x25, x11, x15, x12, x16, x13, x17, x14, x18))).symm
    | 15, _ => wS_15.trans (mnS_15 (S := wS S z) (r := (x0, x5, x6, xJ, x19, x22, x20, x23, x21, x24, x9, x25, x11, x15, x12, x16, x13, x17, x14, x18))).symm
    | 16, _ => wS_16.trans (mnS_16 (S := wS S z) (r := (x0, x5, x6, xJ, x19, x22, x20, x23, x21, x24, x9, x25, x11, x15, x12, x16, x13, x17, x14, x18))).symm
    | 17, _ => wS_17.trans (mnS_17 (S := wS S z) (r := (x0, x5, x6, xJ, x19, x22, x20, x23, x21, x24, x9, x25, x11, x15, x12, x16, x13, x17, x14, x18))).symm
    | 18, _ => wS_18.trans (mnS_18 (S := wS S z) (r := (x0, x5, x6, xJ, x19, x22, x20, x23, x21, x24, x9, x25, x11, x15, x12, x16, x13, x17, x14, x18))).symm
    | 19, _ => wS_19.trans (mnS_19 (S := wS S z) (r := (x0, x5, x6, xJ, x19, x22, x20, x23, x21, x24, x9, x25, x11, x15, x12, x16, x13, x17, x14, x18))).symm
    | 20, _ => wS_20.trans (mnS_20 (S := wS S z) (r := (x0, x5, x6, xJ, x19, x22, x20, x23, x21, x24, x9, x25, x11, x15, x12, x16, x13, x17, x14, x18))).symm
    | 21, _ => wS_21.trans (mnS_21 (S := wS S z) (r := (x0, x5, x6, xJ, x19, x22, x20, x23, x21, x24, x9, x25, x11, x15, x12, x16, x13, x17, x14, x18))).symm
    | 22, _ => wS_22.trans (mnS_22 (S := wS S z) (r := (x0, x5, x6, xJ, x19, x22, x20, x23, x21, x24, x9, x25, x11, x15, x12, x16, x13, x17, x14, x18))).symm
    | 23, _ => wS_23.trans (mnS_23 (S := wS S z) (r := (x0, x5, x6, xJ, x19, x22, x20, x23, x21, x24, x9, x25, x11, x15, x12, x16, x13, x17, x14, x18))).symm
    | 24, _ => wS_24.trans (mnS_24 (S := wS S z) (r := (x0, x5, x6, xJ, x19, x22, x20, x23, x21, x24, x9, x25, x11, x15, x12, x16, x13, x17, x14, x18))).symm
    | 25, _ => wS_25.trans (mnS_25 (S := wS S z) (r := (x0, x5, x6, xJ, x19, x22, x20, x23, x21, x24, x9, x25, x11, x15, x12, x16, x13, x17, x14, x18))).symm
    | n + 26, h => absurd h (by omega)
theorem wS_let (S : Nat → Nat → Int32) (z : kwS) : s_X7_letMinutePass z.2.2.1 z.2.2.2.1 (S 4) (S 10) z.2.2.2.2.1 (S 1) (S 2) z.2.2.2.2.2.2.2.2.2.2.2.2.2.1 z.2.2.2.2.2.2.2.2.2.2.2.2.2.2.1 z.2.2.2.2.2.2.2.2.2.2.2.2.2.2.2.1 z.2.2.2.2.2.2.2.2.2.2.2.2.2.2.2.2.1 z.2.2.2.2.2.2.2.2.2.2.2.2.2.2.2.2.2.1 z.2.2.2.2.2.2.2.2.2.2.2.2.2.2.2.2.2.2.1 z.2.2.2.2.2.2.2.2.2.2.2.2.2.2.2.2.2.2.2.1 (S 3) z.2.2.2.2.2.2.2.2.2.2.2.2.2.2.2.2.2.2.2.2.1 z.2.2.2.2.2.2.2.2.2.2.2.2.2.2.2.2.2.2.2.2.2 z.2.2.2.2.2.1 z.2.2.2.2.2.2.1 z.2.2.2.2.2.2.2.1 z.2.2.2.2.2.2.2.2.1 z.2.2.2.2.2.2.2.2.2.1 z.2.2.2.2.2.2.2.2.2.2.1 z.2.2.2.2.2.2.2.2.2.2.2.1 z.2.2.2.2.2.2.2.2.2.2.2.2.1 = mnR (wS S z) z.2.2.2.2.2.2.2.2.2.2.2.2.2.1 := by
  unfold mnR
  rw [wS_0, wS_5, wS_lo (show (4 : Nat) = 1 ∨ (4 : Nat) = 2 ∨ (4 : Nat) = 3 ∨ (4 : Nat) = 4 ∨ (4 : Nat) = 7 ∨ (4 : Nat) = 8 ∨ (4 : Nat) = 10 by decide), wS_lo (show (10 : Nat) = 1 ∨ (10 : Nat) = 2 ∨ (10 : Nat) = 3 ∨ (10 : Nat) = 4 ∨ (10 : Nat) = 7 ∨ (10 : Nat) = 8 ∨ (10 : Nat) = 10 by decide), wS_6, wS_lo (show (1 : Nat) = 1 ∨ (1 : Nat) = 2 ∨ (1 : Nat) = 3 ∨ (1 : Nat) = 4 ∨ (1 : Nat) = 7 ∨ (1 : Nat) = 8 ∨ (1 : Nat) = 10 by decide), wS_lo (show (2 : Nat) = 1 ∨ (2 : Nat) = 2 ∨ (2 : Nat) = 3 ∨ (2 : Nat) = 4 ∨ (2 : Nat) = 7 ∨ (2 : Nat) = 8 ∨ (2 : Nat) = 10 by decide), wS_19, wS_22, wS_20, wS_23, wS_21, wS_24, wS_lo (show (3 : Nat) = 1 ∨ (3 : Nat) = 2 ∨ (3 : Nat) = 3 ∨ (3 : Nat) = 4 ∨ (3 : Nat) = 7 ∨ (3 : Nat) = 8 ∨ (3 : Nat) = 10 by decide), wS_9, wS_25, wS_11, wS_15, wS_12, wS_16, wS_13, wS_17, wS_14, wS_18]
abbrev kOS : Type := Int32 × Int32 × (Nat → Int32) × (Nat → Int32) × (Nat → Int32) × (Nat → Int32) × (Nat → Int32) × (Nat → Int32) × (Nat → Int32) × (Nat → Int32) × (Nat → Int32) × (Nat → Int32) × (Nat → Int32) × (Nat → Int32) × (Nat → Int32) × (Nat → Int32) × (Nat → Int32) × (Nat → Int32) × Int64 × (Nat → Int32) × (Nat → Int32) × (Nat → Int32) × (Nat → Int32) × (Nat → Int32) × (Nat → Int32) × (Nat → Int32) × (Nat → Int32) × Int32
theorem sm_b (X : kXS) (p1 : Int32) (y : kOS) (z : kwS) : b_X10_bestMode_L53 p1 (X.1 4) (X.1 10) (X.1 1) (X.1 2) y (X.1 3) z = if p1 ≤ z.1 then .inr z else .inl ((z.1 + 1), (z.2.1 + s_X1_temperatureOffset (mnR (wS (va_up X.1 2 (upd (X.1 2) 0 y.1)) z) z.2.2.2.2.2.2.2.2.2.2.2.2.2.1).2.2.1), (mnR (wS (va_up X.1 2 (upd (X.1 2) 0 y.1)) z) z.2.2.2.2.2.2.2.2.2.2.2.2.2.1).1, (mnR (wS (va_up X.1 2 (upd (X.1 2) 0 y.1)) z) z.2.2.2.2.2.2.2.2.2.2.2.2.2.1).2.1, (mnR (wS (va_up X.1 2 (upd (X.1 2) 0 y.1)) z) z.2.2.2.2.2.2.2.2.2.2.2.2.2.1).2.2.1, (mnR (wS (va_up X.1 2 (upd (X.1 2) 0 y.1)) z) z.2.2.2.2.2.2.2.2.2.2.2.2.2.1).2.2.2.2.2.2.2.2.2.2.2.2.1, (mnR (wS (va_up X.1 2 (upd (X.1 2) 0 y.1)) z) z.2.2.2.2.2.2.2.2.2.2.2.2.2.1).2.2.2.2.2.2.2.2.2.2.2.2.2.1, (mnR (wS (va_up X.1 2 (upd (X.1 2) 0 y.1)) z) z.2.2.2.2.2.2.2.2.2.2.2.2.2.1).2.2.2.2.2.2.2.2.2.2.2.2.2.2.1, (mnR (wS (va_up X.1 2 (upd (X.1 2) 0 y.1)) z) z.2.2.2.2.2.2.2.2.2.2.2.2.2.1).2.2.2.2.2.2.2.2.2.2.2.2.2.2.2.1, (mnR (wS (va_up X.1 2 (upd (X.1 2) 0 y.1)) z) z.2.2.2.2.2.2.2.2.2.2.2.2.2.1).2.2.2.2.2.2.2.2.2.2.2.2.2.2.2.2.1, (mnR (wS (va_up X.1 2 (upd (X.1 2) 0 y.1)) z) z.2.2.2.2.2.2.2.2.2.2.2.2.2.1).2.2.2.2.2.2.2.2.2.2.2.2.2.2.2.2.2.1, (mnR (wS (va_up X.1 2 (upd (X.1 2) 0 y.1)) z) z.2.2.2.2.2.2.2.2.2.2.2.2.2.1).2.2.2.2.2.2.2.2.2.2.2.2.2.2.2.2.2.2.1, (mnR (wS (va_up X.1 2 (upd (X.1 2) 0 y.1)) z) z.2.2.2.2.2.2.2.2.2.2.2.2.2.1).2.2.2.2.2.2.2.2.2.2.2.2.2.2.2.2.2.2.2, (mnR (wS (va_up X.1 2 (upd (X.1 2) 0 y.1)) z) z.2.2.2.2.2.2.2.2.2.2.2.2.2.1).2.2.2.1, (mnR (wS (va_up X.1 2 (upd (X.1 2) 0 y.1)) z) z.2.2.2.2.2.2.2.2.2.2.2.2.2.1).2.2.2.2.1, (mnR (wS (va_up X.1 2 (upd (X.1 2) 0 y.1)) z) z.2.2.2.2.2.2.2.2.2.2.2.2.2.1).2.2.2.2.2.1, (mnR (wS (va_up X.1 2 (upd (X.1 2) 0 y.1)) z) z.2.2.2.2.2.2.2.2.2.2.2.2.2.1).2.2.2.2.2.2.1, (mnR (wS (va_up X.1 2 (upd (X.1 2) 0 y.1)) z) z.2.2.2.2.2.2.2.2.2.2.2.2.2.1).2.2.2.2.2.2.2.1, (mnR (wS (va_up X.1 2 (upd (X.1 2) 0 y.1)) z) z.2.2.2.2.2.2.2.2.2.2.2.2.2.1).2.2.2.2.2.2.2.2.1, (mnR (wS (va_up X.1 2 (upd (X.1 2) 0 y.1)) z) z.2.2.2.2.2.2.2.2.2.2.2.2.2.1).2.2.2.2.2.2.2.2.2.1, (mnR (wS (va_up X.1 2 (upd (X.1 2) 0 y.1)) z) z.2.2.2.2.2.2.2.2.2.2.2.2.2.1).2.2.2.2.2.2.2.2.2.2.1, (mnR (wS (va_up X.1 2 (upd (X.1 2) 0 y.1)) z) z.2.2.2.2.2.2.2.2.2.2.2.2.2.1).2.2.2.2.2.2.2.2.2.2.2.1) := by
  unfold b_X10_bestMode_L53 b_X10_bestMode_1
  have e := wS_let (va_up X.1 2 (upd (X.1 2) 0 y.1)) z
  have e1 : (va_up X.1 2 (upd (X.1 2) 0 y.1)) 1 = X.1 1 := va_n (by decide)
  have e2 : (va_up X.1 2 (upd (X.1 2) 0 y.1)) 2 = upd (X.1 2) 0 y.1 := va_s
  have e3 : (va_up X.1 2 (upd (X.1 2) 0 y.1)) 3 = X.1 3 := va_n (by decide)
  have e4 : (va_up X.1 2 (upd (X.1 2) 0 y.1)) 4 = X.1 4 := va_n (by decide)
  have e10 : (va_up X.1 2 (upd (X.1 2) 0 y.1)) 10 = X.1 10 := va_n (by decide)
  rw [e1, e2, e3, e4, e10] at e
  rw [e]
/-- the class' sum with a mode -/
def smC (X : kXS) (p1 : Int32) (y : kOS) : kwS := kLoop default (b_X10_bestMode_L53 p1 (X.1 4) (X.1 10) (X.1 1) (X.1 2) y (X.1 3)) ((Int32.toInt p1 - Int32.toInt 0).toNat + 1) (0, 0, X.1 0, X.1 5, X.1 6, X.1 11, X.1 15, X.1 12, X.1 16, X.1 13, X.1 17, X.1 14, X.1 18, X.2.1, X.1 19, X.1 22, X.1 20, X.1 23, X.1 21, X.1 24, X.1 9, X.1 25)
/-- the reference's -/
def smR (f : Nat → Int32) (w : Nat → Int64) (p1 md : Int32) : Int32 × Int64 × (Nat → Int64) := kLoop default (b_X11_bestMode_L56 p1 f) ((Int32.toInt p1 - Int32.toInt 0).toNat + 1) (0, 0, vp_updL w 17 md.toInt64)
theorem sm_eq {X : kXS} {w : Nat → Int64} (h : kSt X.1 X.2.1 w) (f : Nat → Int32) {p1 : Int32} {y : kOS} (hp : 0 ≤ p1.toInt ∧ p1.toInt ≤ 200) (hm : 0 ≤ y.1.toInt ∧ y.1.toInt ≤ 2) : kE (smR f w p1 y.1).2.1 (smC X p1 y).2.1 0 600000 := by
  obtain ⟨T, hT1, hT2, hr, hn⟩ := h
  have e32 : kE (w 32) (X.1 0 0) 0 T := hr.e 32 (by decide)
  have hT0 : 0 ≤ T := Int.le_trans e32.2.1 e32.2.2
  obtain ⟨n1, n2⟩ := nIofI hp.1 hp.2
  generalize hN : p1.toInt.toNat = N at n1 n2
  have hNb : N ≤ 200 := by omega
  have ef : (Int32.toInt p1 - Int32.toInt 0).toNat + 1 = N + 1 := by
    rw [show Int32.toInt 0 = 0 by decide]
    omega
  have xm : kE y.1.toInt64 y.1 0 2 := kE.up hm
  have k0 := (hr.sel 2).set2 17 (by decide) (by decide) rfl xm (by decide) (Int.le_refl _)
  have kz : kRel T (wS (va_up X.1 2 (upd (X.1 2) 0 y.1)) (0, 0, X.1 0, X.1 5, X.1 6, X.1 11, X.1 15, X.1 12, X.1 16, X.1 13, X.1 17, X.1 14, X.1 18, X.2.1, X.1 19, X.1 22, X.1 20, X.1 23, X.1 21, X.1 24, X.1 9, X.1 25)) X.2.1 (vp_updL w 17 y.1.toInt64) := by
    refine k0.cgA (fun a ha => ?_)
    exact
      match a, ha with
      | 0, _ => (wS_0.trans (va_n (show (0 : Nat) ≠ 2 by decide)).symm)
      | 1, _ => (wS_lo (by decide))
      | 2, _ => (wS_lo (by decide))
      | 3, _ => (wS_lo (by decide))
      | 4, _ => (wS_lo (by decide))
      | 5, _ => (wS_5.trans (va_n (show (5 : Nat) ≠ 2 by decide)).symm)
      | 6, _ => (wS_6.trans (va_n (show (6 : Nat) ≠ 2 by decide)).symm)
      | 7, _ => (wS_lo (by decide))
      | 8, _ => (wS_lo (by decide))
      | 9, _ => (wS_9.trans (va_n (show (9 : Nat) ≠ 2 by decide)).symm)
      | 10, _ => (wS_lo (by decide))
      | 11, _ => (wS_11.trans (va_n (show (11 : Nat) ≠ 2 by decide)).symm)
      | 12, _ => (wS_12.trans (va_n (show (12 : Nat) ≠ 2 by decide)).symm)
      | 13, _ => (wS_13.trans (va_n (show (13 : Nat) ≠ 2 by decide)).symm)
      | 14, _ => (wS_14.trans (va_n (show (14 : Nat) ≠ 2 by decide)).symm)
      | 15, _ => (wS_15.trans (va_n (show (15 : Nat) ≠ 2 by decide)).symm)
      | 16, _ => (wS_16.trans (va_n (show (16 : Nat) ≠ 2 by decide)).symm)
      | 17, _ => (wS_17.trans (va_n (show (17 : Nat) ≠ 2 by decide)).symm)
      | 18, _ => (wS_18.trans (va_n (show (18 : Nat) ≠ 2 by decide)).symm)
      | 19, _ => (wS_19.trans (va_n (show (19 : Nat) ≠ 2 by decide)).symm)
      | 20, _ => (wS_20.trans (va_n (show (20 : Nat) ≠ 2 by decide)).symm)
      | 21, _ => (wS_21.trans (va_n (show (21 : Nat) ≠ 2 by decide)).symm)
      | 22, _ => (wS_22.trans (va_n (show (22 : Nat) ≠ 2 by decide)).symm)
      | 23, _ => (wS_23.trans (va_n (show (23 : Nat) ≠ 2 by decide)).symm)
      | 24, _ => (wS_24.trans (va_n (show (24 : Nat) ≠ 2 by decide)).symm)
      | 25, _ => (wS_25.trans (va_n (show (25 : Nat) ≠ 2 by decide)).symm)
      | n + 26, h => absurd h (by omega)
  have nz : kRn 0 (vp_updL w 17 y.1.toInt64) := hn.cg (Int.le_refl _) (fun k hk => upnL (by omega) rfl) (hr.e 43 (by decide)).kinL.2
  unfold smR smC
  rw [ef]
  refine kLock (b := b_X10_bestMode_L53 p1 (X.1 4) (X.1 10) (X.1 1) (X.1 2) y (X.1 3)) (b2 := b_X11_bestMode_L56 p1 f) (d := default) (d2 := default) N (fun i z yy => z.1 = nI i ∧ yy.1 = nI i ∧ kE yy.2.1 z.2.1 0 (3000 * (i : Int)) ∧ kRel (T + (i : Int)) (wS (va_up X.1 2 (upd (X.1 2) 0 y.1)) z) z.2.2.2.2.2.2.2.2.2.2.2.2.2.1 yy.2.2 ∧ kRn 0 yy.2.2) (fun r r2 => kE r2.2.1 r.2.1 0 600000) (fun i z yy hi hq => ?_) (N + 1) (N + 1) 0 (0, 0, X.1 0, X.1 5, X.1 6, X.1 11, X.1 15, X.1 12, X.1 16, X.1 13, X.1 17, X.1 14, X.1 18, X.2.1, X.1 19, X.1 22, X.1 20, X.1 23, X.1 21, X.1 24, X.1 9, X.1 25) (0, 0, vp_updL w 17 y.1.toInt64) (Nat.zero_le _) (by omega) (by omega) ⟨rfl, rfl, kE0.wk (by decide) (by decide), by rw [show T + ((0 : Nat) : Int) = T by omega]; exact kz, nz⟩
  obtain ⟨q1, q2, q3, q4, q5⟩ := hq
  have eb := sm_b X p1 y z
  by_cases c : i = N
  · subst c
    refine Or.inl ⟨z, (yy.1, yy.2.1, yy.2.2), ?_, ?_, q3.wk (by omega) (by omega)⟩
    · rw [eb, q1, n1, if_pos (nI_le (Nat.le_refl _) (by omega))]
    · unfold b_X11_bestMode_L56
      rw [if_pos (by rw [q2, n1]; exact nI_le (Nat.le_refl _) (by omega))]
  · have hlt : i < N := by omega
    have cn : ¬ nI N ≤ nI i := nI_ge hlt (by omega)
    obtain ⟨k1, k2⟩ := wS_step q4 q5 ⟨by omega, by omega⟩ (upd f 7 0) (z.1 + 1) (z.2.1 + s_X1_temperatureOffset (mnR (wS (va_up X.1 2 (upd (X.1 2) 0 y.1)) z) z.2.2.2.2.2.2.2.2.2.2.2.2.2.1).2.2.1)
    have eb2 : b_X11_bestMode_L56 p1 f yy = .inl (yy.1 + 1, yy.2.1 + s_X11_size (s_X11_minute (upd f 7 0) yy.2.2 14 - s_X11_minute (upd f 7 0) yy.2.2 12), s_X11_minute (upd f 7 0) yy.2.2) := by
      unfold b_X11_bestMode_L56 b_X11_bestMode_1
      rw [if_neg (by rw [q2, n1]; exact cn)]
    have eb3 := eb.trans (if_neg (by rw [q1, n1]; exact cn))
    generalize mnR (wS (va_up X.1 2 (upd (X.1 2) 0 y.1)) z) z.2.2.2.2.2.2.2.2.2.2.2.2.2.1 = r at k1 eb3
    obtain ⟨x0, x5, x6, xJ, x19, x22, x20, x23, x21, x24, x9, x25, x11, x15, x12, x16, x13, x17, x14, x18⟩ := r
    generalize s_X11_minute (upd f 7 0) yy.2.2 = w9 at eb2 k1 k2
    have e6 : wS (va_up X.1 2 (upd (X.1 2) 0 y.1)) (z.1 + 1, z.2.1 + s_X1_temperatureOffset x6, (x0, x5, x6, xJ, x19, x22, x20, x23, x21, x24, x9, x25, x11, x15, x12, x16, x13, x17, x14, x18).1, (x0, x5, x6, xJ, x19, x22, x20, x23, x21, x24, x9, x25, x11, x15, x12, x16, x13, x17, x14, x18).2.1, (x0, x5, x6, xJ, x19, x22, x20, x23, x21, x24, x9, x25, x11, x15, x12, x16, x13, x17, x14, x18).2.2.1, (x0, x5, x6, xJ, x19, x22, x20, x23, x21, x24, x9, x25, x11, x15, x12, x16, x13, x17, x14, x18).2.2.2.2.2.2.2.2.2.2.2.2.1, (x0, x5, x6, xJ, x19, x22, x20, x23, x21, x24, x9, x25, x11, x15, x12, x16, x13, x17, x14, x18).2.2.2.2.2.2.2.2.2.2.2.2.2.1, (x0, x5, x6, xJ, x19, x22, x20, x23, x21, x24, x9, x25, x11, x15, x12, x16, x13, x17, x14, x18).2.2.2.2.2.2.2.2.2.2.2.2.2.2.1, (x0, x5, x6, xJ, x19, x22, x20, x23, x21, x24, x9, x25, x11, x15, x12, x16, x13, x17, x14, x18).2.2.2.2.2.2.2.2.2.2.2.2.2.2.2.1, (x0, x5, x6, xJ, x19, x22, x20, x23, x21, x24, x9, x25, x11, x15, x12, x16, x13, x17, x14, x18).2.2.2.2.2.2.2.2.2.2.2.2.2.2.2.2.1, (x0, x5, x6, xJ, x19, x22, x20, x23, x21, x24, x9, x25, x11, x15, x12, x16, x13, x17, x14, x18).2.2.2.2.2.2.2.2.2.2.2.2.2.2.2.2.2.1, (x0, x5, x6, xJ, x19, x22, x20, x23, x21, x24, x9, x25, x11, x15, x12, x16, x13, x17, x14, x18).2.2.2.2.2.2.2.2.2.2.2.2.2.2.2.2.2.2.1, (x0, x5, x6, xJ, x19, x22, x20, x23, x21, x24, x9, x25, x11, x15, x12, x16, x13, x17, x14, x18).2.2.2.2.2.2.2.2.2.2.2.2.2.2.2.2.2.2.2, (x0, x5, x6, xJ, x19, x22, x20, x23, x21, x24, x9, x25, x11, x15, x12, x16, x13, x17, x14, x18).2.2.2.1, (x0, x5, x6, xJ, x19, x22, x20, x23, x21, x24, x9, x25, x11, x15, x12, x16, x13, x17, x14, x18).2.2.2.2.1, (x0, x5, x6, xJ, x19, x22, x20, x23, x21, x24, x9, x25, x11, x15, x12, x16, x13, x17, x14, x18).2.2.2.2.2.1, (x0, x5, x6, xJ, x19, x22, x20, x23, x21, x24, x9, x25, x11, x15, x12, x16, x13, x17, x14, x18).2.2.2.2.2.2.1, (x0, x5, x6, xJ, x19, x22, x20, x23, x21, x24, x9, x25, x11, x15, x12, x16, x13, x17, x14, x18).2.2.2.2.2.2.2.1, (x0, x5, x6, xJ, x19, x22, x20, x23, x21, x24, x9, x25, x11, x15, x12, x16, x13, x17, x14, x18).2.2.2.2.2.2.2.2.1, (x0, x5, x6, xJ, x19, x22, x20, x23, x21, x24, x9, x25, x11, x15, x12, x16, x13, x17, x14, x18).2.2.2.2.2.2.2.2.2.1, (x0, x5, x6, xJ, x19, x22, x20, x23, x21, x24, x9, x25, x11, x15, x12, x16, x13, x17, x14, x18).2.2.2.2.2.2.2.2.2.2.1, (x0, x5, x6, xJ, x19, x22, x20, x23, x21, x24, x9, x25, x11, x15, x12, x16, x13, x17, x14, x18).2.2.2.2.2.2.2.2.2.2.2.1) 6 = x6 := wS_6
    have i14 : kE (w9 14) (wS (va_up X.1 2 (upd (X.1 2) 0 y.1)) (z.1 + 1, z.2.1 + s_X1_temperatureOffset x6, (x0, x5, x6, xJ, x19, x22, x20, x23, x21, x24, x9, x25, x11, x15, x12, x16, x13, x17, x14, x18).1, (x0, x5, x6, xJ, x19, x22, x20, x23, x21, x24, x9, x25, x11, x15, x12, x16, x13, x17, x14, x18).2.1, (x0, x5, x6, xJ, x19, x22, x20, x23, x21, x24, x9, x25, x11, x15, x12, x16, x13, x17, x14, x18).2.2.1, (x0, x5, x6, xJ, x19, x22, x20, x23, x21, x24, x9, x25, x11, x15, x12, x16, x13, x17, x14, x18).2.2.2.2.2.2.2.2.2.2.2.2.1, (x0, x5, x6, xJ, x19, x22, x20, x23, x21, x24, x9, x25, x11, x15, x12, x16, x13, x17, x14, x18).2.2.2.2.2.2.2.2.2.2.2.2.2.1, (x0, x5, x6, xJ, x19, x22, x20, x23, x21, x24, x9, x25, x11, x15, x12, x16, x13, x17, x14, x18).2.2.2.2.2.2.2.2.2.2.2.2.2.2.1, (x0, x5, x6, xJ, x19, x22, x20, x23, x21, x24, x9, x25, x11, x15, x12, x16, x13, x17, x14, x18).2.2.2.2.2.2.2.2.2.2.2.2.2.2.2.1, (x0, x5, x6, xJ, x19, x22, x20, x23, x21, x24, x9, x25, x11, x15, x12, x16, x13, x17, x14, x18).2.2.2.2.2.2.2.2.2.2.2.2.2.2.2.2.1, (x0, x5, x6, xJ, x19, x22, x20, x23, x21, x24, x9, x25, x11, x15, x12, x16, x13, x17, x14, x18).2.2.2.2.2.2.2.2.2.2.2.2.2.2.2.2.2.1, (x0, x5, x6, xJ, x19, x22, x20, x23, x21, x24, x9, x25, x11, x15, x12, x16, x13, x17, x14, x18).2.2.2.2.2.2.2.2.2.2.2.2.2.2.2.2.2.2.1, (x0, x5, x6, xJ, x19, x22, x20, x23, x21, x24, x9, x25, x11, x15, x12, x16, x13, x17, x14, x18).2.2.2.2.2.2.2.2.2.2.2.2.2.2.2.2.2.2.2, (x0, x5, x6, xJ, x19, x22, x20, x23, x21, x24, x9, x25, x11, x15, x12, x16, x13, x17, x14, x18).2.2.2.1, (x0, x5, x6, xJ, x19, x22, x20, x23, x21, x24, x9, x25, x11, x15, x12, x16, x13, x17, x14, x18).2.2.2.2.1, (x0, x5, x6, xJ, x19, x22, x20, x23, x21, x24, x9, x25, x11, x15, x12, x16, x13, x17, x14, x18).2.2.2.2.2.1, (x0, x5, x6, xJ, x19, x22, x20, x23, x21, x24, x9, x25, x11, x15, x12, x16, x13, x17, x14, x18).2.2.2.2.2.2.1, (x0, x5, x6, xJ, x19, x22, x20, x23, x21, x24, x9, x25, x11, x15, x12, x16, x13, x17, x14, x18).2.2.2.2.2.2.2.1, (x0, x5, x6, xJ, x19, x22, x20, x23, x21, x24, x9, x25, x11, x15, x12, x16, x13, x17, x14, x18).2.2.2.2.2.2.2.2.1, (x0, x5, x6, xJ, x19, x22, x20, x23, x21, x24, x9, x25, x11, x15, x12, x16, x13, x17, x14, x18).2.2.2.2.2.2.2.2.2.1, (x0, x5, x6, xJ, x19, x22, x20, x23, x21, x24, x9, x25, x11, x15, x12, x16, x13, x17, x14, x18).2.2.2.2.2.2.2.2.2.2.1, (x0, x5, x6, xJ, x19, x22, x20, x23, x21, x24, x9, x25, x11, x15, x12, x16, x13, x17, x14, x18).2.2.2.2.2.2.2.2.2.2.2.1) 6 2) (-700) 2000 := k1.e 14 (by decide)
    have i12 : kE (w9 12) (wS (va_up X.1 2 (upd (X.1 2) 0 y.1)) (z.1 + 1, z.2.1 + s_X1_temperatureOffset x6, (x0, x5, x6, xJ, x19, x22, x20, x23, x21, x24, x9, x25, x11, x15, x12, x16, x13, x17, x14, x18).1, (x0, x5, x6, xJ, x19, x22, x20, x23, x21, x24, x9, x25, x11, x15, x12, x16, x13, x17, x14, x18).2.1, (x0, x5, x6, xJ, x19, x22, x20, x23, x21, x24, x9, x25, x11, x15, x12, x16, x13, x17, x14, x18).2.2.1, (x0, x5, x6, xJ, x19, x22, x20, x23, x21, x24, x9, x25, x11, x15, x12, x16, x13, x17, x14, x18).2.2.2.2.2.2.2.2.2.2.2.2.1, (x0, x5, x6, xJ, x19, x22, x20, x23, x21, x24, x9, x25, x11, x15, x12, x16, x13, x17, x14, x18).2.2.2.2.2.2.2.2.2.2.2.2.2.1, (x0, x5, x6, xJ, x19, x22, x20, x23, x21, x24, x9, x25, x11, x15, x12, x16, x13, x17, x14, x18).2.2.2.2.2.2.2.2.2.2.2.2.2.2.1, (x0, x5, x6, xJ, x19, x22, x20, x23, x21, x24, x9, x25, x11, x15, x12, x16, x13, x17, x14, x18).2.2.2.2.2.2.2.2.2.2.2.2.2.2.2.1, (x0, x5, x6, xJ, x19, x22, x20, x23, x21, x24, x9, x25, x11, x15, x12, x16, x13, x17, x14, x18).2.2.2.2.2.2.2.2.2.2.2.2.2.2.2.2.1, (x0, x5, x6, xJ, x19, x22, x20, x23, x21, x24, x9, x25, x11, x15, x12, x16, x13, x17, x14, x18).2.2.2.2.2.2.2.2.2.2.2.2.2.2.2.2.2.1, (x0, x5, x6, xJ, x19, x22, x20, x23, x21, x24, x9, x25, x11, x15, x12, x16, x13, x17, x14, x18).2.2.2.2.2.2.2.2.2.2.2.2.2.2.2.2.2.2.1, (x0, x5, x6, xJ, x19, x22, x20, x23, x21, x24, x9, x25, x11, x15, x12, x16, x13, x17, x14, x18).2.2.2.2.2.2.2.2.2.2.2.2.2.2.2.2.2.2.2, (x0, x5, x6, xJ, x19, x22, x20, x23, x21, x24, x9, x25, x11, x15, x12, x16, x13, x17, x14, x18).2.2.2.1, (x0, x5, x6, xJ, x19, x22, x20, x23, x21, x24, x9, x25, x11, x15, x12, x16, x13, x17, x14, x18).2.2.2.2.1, (x0, x5, x6, xJ, x19, x22, x20, x23, x21, x24, x9, x25, x11, x15, x12, x16, x13, x17, x14, x18).2.2.2.2.2.1, (x0, x5, x6, xJ, x19, x22, x20, x23, x21, x24, x9, x25, x11, x15, x12, x16, x13, x17, x14, x18).2.2.2.2.2.2.1, (x0, x5, x6, xJ, x19, x22, x20, x23, x21, x24, x9, x25, x11, x15, x12, x16, x13, x17, x14, x18).2.2.2.2.2.2.2.1, (x0, x5, x6, xJ, x19, x22, x20, x23, x21, x24, x9, x25, x11, x15, x12, x16, x13, x17, x14, x18).2.2.2.2.2.2.2.2.1, (x0, x5, x6, xJ, x19, x22, x20, x23, x21, x24, x9, x25, x11, x15, x12, x16, x13, x17, x14, x18).2.2.2.2.2.2.2.2.2.1, (x0, x5, x6, xJ, x19, x22, x20, x23, x21, x24, x9, x25, x11, x15, x12, x16, x13, x17, x14, x18).2.2.2.2.2.2.2.2.2.2.1, (x0, x5, x6, xJ, x19, x22, x20, x23, x21, x24, x9, x25, x11, x15, x12, x16, x13, x17, x14, x18).2.2.2.2.2.2.2.2.2.2.2.1) 6 0) (-700) 2000 := k1.e 12 (by decide)
    rw [e6] at i14 i12
    have ab : kE (s_X11_size (w9 14 - w9 12)) (s_X1_temperatureOffset x6) 0 3000 := by
      unfold s_X1_temperatureOffset
      exact ((i14.sub i12 (by decide) (by decide)).wk (c := -3000) (d := 3000) (by decide) (by decide)).abs (by decide)
    refine Or.inr (Or.inr ⟨hlt, (z.1 + 1, z.2.1 + s_X1_temperatureOffset x6, x0, x5, x6, x11, x15, x12, x16, x13, x17, x14, x18, xJ, x19, x22, x20, x23, x21, x24, x9, x25), (yy.1 + 1, yy.2.1 + s_X11_size (w9 14 - w9 12), w9), eb3, eb2, ?_, ?_, ?_, ?_, k2⟩)
    · show z.1 + 1 = _
      rw [q1, nI_succ]
    · show yy.1 + 1 = _
      rw [q2, nI_succ]
    · exact (q3.add ab (by omega) (by omega)).wk (by omega) (by omega)
    · rw [show T + ((i + 1 : Nat) : Int) = T + (i : Int) + 1 by omega]
      exact k1
theorem bm_in (f : Nat → Int32) (u2 : Nat → Int64) (p1 i : Int32) (lv : Int64) (w : Nat → Int64) (bst : Int32) (c : ¬ 3 ≤ i) : b_X11_bestMode_L34 f u2 p1 (i, lv, w, bst) = .inl (i + 1, (if i = 0 then ((smR f w p1 i).2.1, i) else (if lv ≤ (smR f w p1 i).2.1 then (lv, bst) else ((smR f w p1 i).2.1, i))).1, s_X11_endTrial (upd f 7 0) u2 (smR f w p1 i).2.2, (if i = 0 then ((smR f w p1 i).2.1, i) else (if lv ≤ (smR f w p1 i).2.1 then (lv, bst) else ((smR f w p1 i).2.1, i))).2) := by
  unfold b_X11_bestMode_L34 b_X11_bestMode_4 b_X11_bestMode_3 b_X11_bestMode_2 smR
  rw [if_neg c]
theorem bm_out (f : Nat → Int32) (u2 : Nat → Int64) (p1 i : Int32) (lv : Int64) (w : Nat → Int64) (bst : Int32) (c : 3 ≤ i) : b_X11_bestMode_L34 f u2 p1 (i, lv, w, bst) = .inr (i, lv, w, bst) := by
  unfold b_X11_bestMode_L34
  rw [if_pos c]
theorem bm_all {f : Nat → Int32} {u2 w w1 w2 w3 : Nat → Int64} {p1 : Int32} {s0 s1 s2 : Int32 × Int64 × (Nat → Int64)} {lb : Int64 × Int32} (h0 : smR f w p1 0 = s0) (x1 : s_X11_endTrial (upd f 7 0) u2 s0.2.2 = w1) (h1 : smR f w1 p1 1 = s1) (x2 : s_X11_endTrial (upd f 7 0) u2 s1.2.2 = w2) (h2 : smR f w2 p1 2 = s2) (x3 : s_X11_endTrial (upd f 7 0) u2 s2.2.2 = w3) (hl : (if s0.2.1 ≤ s1.2.1 then (s0.2.1, (0 : Int32)) else (s1.2.1, 1)) = lb) : kLoop default (b_X11_bestMode_L34 f u2 p1) ((Int32.toInt 3 - Int32.toInt 0).toNat + 1) (0, 0, w, 0) = (3, (if lb.1 ≤ s2.2.1 then (lb.1, lb.2) else (s2.2.1, 2)).1, w3, (if lb.1 ≤ s2.2.1 then (lb.1, lb.2) else (s2.2.1, 2)).2) := by
  have e : (Int32.toInt 3 - Int32.toInt 0).toNat + 1 = 0 + 1 + 1 + 1 + 1 := by decide
  have a1 : (0 : Int32) + 1 = 1 := by decide
  have a2 : (1 : Int32) + 1 = 2 := by decide
  have a3 : (2 : Int32) + 1 = 3 := by decide
  have b0 := bm_in f u2 p1 0 0 w 0 (by decide)
  rw [if_pos (show (0 : Int32) = 0 from rfl), a1, h0, x1] at b0
  have b1 := bm_in f u2 p1 1 s0.2.1 w1 0 (by decide)
  rw [if_neg (show ¬ (1 : Int32) = 0 by decide), a2, h1, x2, hl] at b1
  have b2 := bm_in f u2 p1 2 lb.1 w2 lb.2 (by decide)
  rw [if_neg (show ¬ (2 : Int32) = 0 by decide), a3, h2, x3] at b2
  rw [e, kLoop_in b0, kLoop_in b1, kLoop_in b2]
  exact kLoop_out (bm_out f u2 p1 3 _ _ _ (by decide))
theorem cm_in (X : kXS) (p1 : Int32) (y : kOS) (c : ¬ 3 ≤ y.1) : ∃ y2 : kOS, b_X10_bestMode_L18 (X.1 1) (X.1 2) (X.1 3) (X.1 4) (X.1 10) p1 (X.1 0) (X.1 5) (X.1 6) (X.1 11) (X.1 15) (X.1 12) (X.1 16) (X.1 13) (X.1 17) (X.1 14) (X.1 18) X.2.1 (X.1 19) (X.1 22) (X.1 20) (X.1 23) (X.1 21) (X.1 24) (X.1 9) (X.1 25) y = .inl y2 ∧ y2.1 = y.1 + 1 ∧ y2.2.1 = (j_X10_bestMode_2 y (smC X p1 y)).2 ∧ y2.2.2.2.2.2.2.2.2.2.2.2.2.2.2.2.2.2.2.2.2.2.2.2.2.2.2.2 = (j_X10_bestMode_2 y (smC X p1 y)).1 := by
  have e : b_X10_bestMode_L18 (X.1 1) (X.1 2) (X.1 3) (X.1 4) (X.1 10) p1 (X.1 0) (X.1 5) (X.1 6) (X.1 11) (X.1 15) (X.1 12) (X.1 16) (X.1 13) (X.1 17) (X.1 14) (X.1 18) X.2.1 (X.1 19) (X.1 22) (X.1 20) (X.1 23) (X.1 21) (X.1 24) (X.1 9) (X.1 25) y = b_X10_bestMode_3 y (smC X p1 y) (X.1 1) (X.1 2) (X.1 3) (X.1 4) (X.1 10) (j_X10_bestMode_2 y (smC X p1 y)) := by
    unfold b_X10_bestMode_L18 b_X10_bestMode_4 smC
    rw [if_neg c]
  rw [e]
  generalize smC X p1 y = m
  unfold b_X10_bestMode_3
  exact ⟨_, rfl, rfl, rfl, rfl⟩
theorem cm_out (X : kXS) (p1 : Int32) (y : kOS) (c : 3 ≤ y.1) : b_X10_bestMode_L18 (X.1 1) (X.1 2) (X.1 3) (X.1 4) (X.1 10) p1 (X.1 0) (X.1 5) (X.1 6) (X.1 11) (X.1 15) (X.1 12) (X.1 16) (X.1 13) (X.1 17) (X.1 14) (X.1 18) X.2.1 (X.1 19) (X.1 22) (X.1 20) (X.1 23) (X.1 21) (X.1 24) (X.1 9) (X.1 25) y = .inr y := by
  unfold b_X10_bestMode_L18
  rw [if_pos c]
theorem cm_all (X : kXS) (p1 : Int32) (y0 : kOS) (n0 : y0.1 = 0) : ∃ y1 y2 : kOS, y1.1 = 1 ∧ y2.1 = 2 ∧ (kLoop default (b_X10_bestMode_L18 (X.1 1) (X.1 2) (X.1 3) (X.1 4) (X.1 10) p1 (X.1 0) (X.1 5) (X.1 6) (X.1 11) (X.1 15) (X.1 12) (X.1 16) (X.1 13) (X.1 17) (X.1 14) (X.1 18) X.2.1 (X.1 19) (X.1 22) (X.1 20) (X.1 23) (X.1 21) (X.1 24) (X.1 9) (X.1 25)) ((Int32.toInt 3 - Int32.toInt 0).toNat + 1) y0).2.2.2.2.2.2.2.2.2.2.2.2.2.2.2.2.2.2.2.2.2.2.2.2.2.2.2 = (if (if (smC X p1 y0).2.1 ≤ (smC X p1 y1).2.1 then ((smC X p1 y0).2.1, (0 : Int32)) else ((smC X p1 y1).2.1, 1)).1 ≤ (smC X p1 y2).2.1 then ((if (smC X p1 y0).2.1 ≤ (smC X p1 y1).2.1 then ((smC X p1 y0).2.1, (0 : Int32)) else ((smC X p1 y1).2.1, 1)).1, (if (smC X p1 y0).2.1 ≤ (smC X p1 y1).2.1 then ((smC X p1 y0).2.1, (0 : Int32)) else ((smC X p1 y1).2.1, 1)).2) else ((smC X p1 y2).2.1, 2)).2 := by
  obtain ⟨y1, e0, a1, b1, d1⟩ := cm_in X p1 y0 (by rw [n0]; decide)
  have n1 : y1.1 = 1 := by rw [a1, n0]; decide
  obtain ⟨y2, e1, a2, b2, d2⟩ := cm_in X p1 y1 (by rw [n1]; decide)
  have n2 : y2.1 = 2 := by rw [a2, n1]; decide
  obtain ⟨y3, e2, a3, -, d3⟩ := cm_in X p1 y2 (by rw [n2]; decide)
  have n3 : y3.1 = 3 := by rw [a3, n2]; decide
  refine ⟨y1, y2, n1, n2, ?_⟩
  have e : (Int32.toInt 3 - Int32.toInt 0).toNat + 1 = 0 + 1 + 1 + 1 + 1 := by decide
  rw [e, kLoop_in e0, kLoop_in e1, kLoop_in e2, kLoop_out (cm_out X p1 y3 (by rw [n3]; decide)), d3]
  clear e e0 e1 e2 d3 a1 a2 a3
  generalize smC X p1 y0 = m0 at b1 d1 ⊢
  generalize smC X p1 y1 = m1 at b2 d2 ⊢
  generalize smC X p1 y2 = m2
  unfold j_X10_bestMode_2 at b1 d1 b2 d2 ⊢
  rw [if_pos n0] at b1 d1
  rw [if_neg (show ¬ y1.1 = 0 by rw [n1]; decide), b1, d1, n0, n1] at b2 d2
  rw [if_neg (show ¬ y2.1 = 0 by rw [n2]; decide), b2, d2, n2]
  by_cases c : m0.2.1 ≤ m1.2.1
  · rw [if_pos c, if_pos c]
    by_cases c' : m0.2.1 ≤ m2.2.1
    · rw [if_pos (show ((0 : Int32), m0.2.1).2 ≤ m2.2.1 from c'), if_pos (show (m0.2.1, (0 : Int32)).1 ≤ m2.2.1 from c')]
    · rw [if_neg (show ¬ ((0 : Int32), m0.2.1).2 ≤ m2.2.1 from c'), if_neg (show ¬ (m0.2.1, (0 : Int32)).1 ≤ m2.2.1 from c')]
  · rw [if_neg c, if_neg c]
    by_cases c' : m1.2.1 ≤ m2.2.1
    · rw [if_pos (show ((1 : Int32), m1.2.1).2 ≤ m2.2.1 from c'), if_pos (show (m1.2.1, (1 : Int32)).1 ≤ m2.2.1 from c')]
    · rw [if_neg (show ¬ ((1 : Int32), m1.2.1).2 ≤ m2.2.1 from c'), if_neg (show ¬ (m1.2.1, (1 : Int32)).1 ≤ m2.2.1 from c')]
theorem cm_r (X : kXS) (p1 : Int32) : ∃ y0 : kOS, y0.1 = 0 ∧ r_bestMode_0 X p1 = (kLoop default (b_X10_bestMode_L18 (X.1 1) (X.1 2) (X.1 3) (X.1 4) (X.1 10) p1 (X.1 0) (X.1 5) (X.1 6) (X.1 11) (X.1 15) (X.1 12) (X.1 16) (X.1 13) (X.1 17) (X.1 14) (X.1 18) X.2.1 (X.1 19) (X.1 22) (X.1 20) (X.1 23) (X.1 21) (X.1 24) (X.1 9) (X.1 25)) ((Int32.toInt 3 - Int32.toInt 0).toNat + 1) y0).2.2.2.2.2.2.2.2.2.2.2.2.2.2.2.2.2.2.2.2.2.2.2.2.2.2.2 := by
  have e5 : ∀ m : kOS, (s_X10_bestMode_5 m).1 = m.2.2.2.2.2.2.2.2.2.2.2.2.2.2.2.2.2.2.2.2.2.2.2.2.2.2.2 := fun m => rfl
  unfold r_bestMode_0 s_X10_bestMode
  refine ⟨_, ?_, e5 _⟩
  rfl
theorem ok_bestMode {l : Launch} (hl0 : l.stackTraces = false) (D : va_G) (cI cJ cO : ClassId) (z : zT) {X : kXS} {Y : kTS} {M : kMS} (b o : Nat) (u : Nat → Nat) (fo : Nat → Int64) (p0 : Int32) (h : rR X Y M) : lStep l D cI cJ cO z yL_bestMode cL_bestMode 4 [(0, 9, 12, 15)] [.ref b, .int p0, .ref o] b o u X Y fo (a_bestMode M p0) ((q_bestMode M p0).1 7) (fun X2 Y2 => rR X2 Y2 (q_bestMode M p0)) := by
  obtain ⟨T, hT1, hT2, hr, hn⟩ := id h.1
  have e1 : s_X11_in p0.toInt64 1 200 = s_X10_isWithin p0 1 200 := inW (kE.lit (a := 1) (x := 1) (n := 1) (by decide) (by decide)) (kE.lit (a := 200) (x := 200) (n := 200) (by decide) (by decide))
  by_cases v : s_X10_isWithin p0 1 200 = 0
  · refine lSt_t (by decide) (by decide) (w_bestMode_1 l hl0 D cI cJ cO z b o u X Y fo p0 v) rfl (by decide) ?_ h
    unfold q_bestMode s_X11_bestMode s_X11_bestMode_5 s_X11_refuse
    rw [if_pos (e1.trans v)]
  · have c1 : ¬ s_X11_in p0.toInt64 1 200 = 0 := by rw [e1]; exact v
    have b1 := wi_yes v
    have b1a : 1 ≤ p0.toInt := b1.1
    have b1b : p0.toInt ≤ 200 := b1.2
    have hp : 0 ≤ p0.toInt ∧ p0.toInt ≤ 200 := ⟨by omega, b1b⟩
    have tt := fun w9 => te_eq (upd M.1 7 0) (upd M.1 7 0) M.2.1 M.2.2.2.1 w9
    generalize hu2 : s_X11_beginTrial (upd M.1 7 0) M.2.1 M.2.2.2.1 = u2 at tt
    have t1 := tt (smR M.1 M.2.1 p0 0).2.2
    generalize hw1 : s_X11_endTrial (upd M.1 7 0) u2 (smR M.1 M.2.1 p0 0).2.2 = w1 at t1
    have t2 := tt (smR M.1 w1 p0 1).2.2
    generalize hw2 : s_X11_endTrial (upd M.1 7 0) u2 (smR M.1 w1 p0 1).2.2 = w2 at t2
    have t3 := tt (smR M.1 w2 p0 2).2.2
    generalize hw3 : s_X11_endTrial (upd M.1 7 0) u2 (smR M.1 w2 p0 2).2.2 = w3 at t3
    have KK := bm_all rfl hw1 rfl hw2 rfl hw3 rfl
    obtain ⟨y0, g0, r0⟩ := cm_r X p0
    obtain ⟨y1, y2, g1, g2, r1⟩ := cm_all X p0 y0 g0
    have s0 := sm_eq h.1 M.1 (y := y0) hp (by rw [g0]; decide)
    have s1 := sm_eq (h.1.cg t1) M.1 (y := y1) hp (by rw [g1]; decide)
    have s2 := sm_eq (h.1.cg t2) M.1 (y := y2) hp (by rw [g2]; decide)
    rw [g0] at s0
    rw [g1] at s1
    rw [g2] at s2
    have hR := r0.trans r1
    clear r0 r1
    generalize hb : kLoop default (b_X11_bestMode_L34 M.1 u2 p0) ((Int32.toInt 3 - Int32.toInt 0).toNat + 1) (0, 0, M.2.1, 0) = K at KK
    have hq : s_X11_bestMode M.1 M.2.1 M.2.2.2.1 p0 = (K.2.2.2, upd M.1 7 0, K.2.2.1, u2) := by
      unfold s_X11_bestMode s_X11_bestMode_7 s_X11_bestMode_6
      rw [if_neg c1, hu2, hb]
    refine lSt_q (F := 7) (L := 162) (by decide) (by decide) (w_bestMode_0 l hl0 D cI cJ cO z b o u X Y fo p0 h.1.sb v) (by unfold q_bestMode; rw [hq]) (by rw [KK]; exact t3) rfl rfl rfl rfl rfl ?_ h
    refine congrArg Int32.toInt64 ?_
    have a2 : a_bestMode M p0 = K.2.2.2 := by unfold a_bestMode; rw [hq]
    rw [a2, KK, hR]
    clear KK hb hq a2 hR
    generalize (smC X p0 y0).2.1 = c0 at s0 ⊢
    generalize (smC X p0 y1).2.1 = c1 at s1 ⊢
    generalize (smC X p0 y2).2.1 = c2 at s2 ⊢
    generalize (smR M.1 M.2.1 p0 0).2.1 = d0 at s0 ⊢
    generalize (smR M.1 w1 p0 1).2.1 = d1 at s1 ⊢
    generalize (smR M.1 w2 p0 2).2.1 = d2 at s2 ⊢
    have z01 : (d0 ≤ d1) = (c0 ≤ c1) := kE.le s0 s1
    have z02 : (d0 ≤ d2) = (c0 ≤ c2) := kE.le s0 s2
    have z12 : (d1 ≤ d2) = (c1 ≤ c2) := kE.le s1 s2
    clear hw1 hw2 hw3 t1 t2 t3 tt
    show _ = (if (if d0 ≤ d1 then (d0, (0 : Int32)) else (d1, 1)).1 ≤ d2 then ((if d0 ≤ d1 then (d0, (0 : Int32)) else (d1, 1)).1, (if d0 ≤ d1 then (d0, (0 : Int32)) else (d1, 1)).2) else (d2, 2)).2
    by_cases c : c0 ≤ c1
    · rw [if_pos c, if_pos (pT z01 c)]
      by_cases c' : c0 ≤ c2
      · rw [if_pos (show (c0, (0 : Int32)).1 ≤ c2 from c'), if_pos (show (d0, (0 : Int32)).1 ≤ d2 from pT z02 c')]
      · rw [if_neg (show ¬ (c0, (0 : Int32)).1 ≤ c2 from c'), if_neg (show ¬ (d0, (0 : Int32)).1 ≤ d2 from pTn z02 c')]
    · rw [if_neg c, if_neg (pTn z01 c)]
      by_cases c' : c1 ≤ c2
      · rw [if_pos (show (c1, (1 : Int32)).1 ≤ c2 from c'), if_pos (show (d1, (1 : Int32)).1 ≤ d2 from pT z12 c')]
      · rw [if_neg (show ¬ (c1, (1 : Int32)).1 ≤ c2 from c'), if_neg (show ¬ (d1, (1 : Int32)).1 ≤ d2 from pTn z12 c')]
