/-! loops of minutes side by side -/
theorem kLock {σ s2 τ t2 : Type} {b : σ → σ ⊕ τ} {b2 : s2 → s2 ⊕ t2} {d : τ} {d2 : t2} (N : Nat) (Q : Nat → σ → s2 → Prop) (O : τ → t2 → Prop) (hs : ∀ (i : Nat) (z : σ) (y : s2), i ≤ N → Q i z y → (∃ r r2, b z = .inr r ∧ b2 y = .inr r2 ∧ O r r2) ∨ (i < N ∧ ∃ r y2 r2, b z = .inr r ∧ b2 y = .inl y2 ∧ b2 y2 = .inr r2 ∧ O r r2) ∨ (i < N ∧ ∃ z2 y2, b z = .inl z2 ∧ b2 y = .inl y2 ∧ Q (i + 1) z2 y2)) : ∀ (n m i : Nat) (z : σ) (y : s2), i ≤ N → N < i + n → N < i + m → Q i z y → O (kLoop d b n z) (kLoop d2 b2 m y) := by
  intro n
  induction n with
  | zero => intro m i z y h1 h2 h3 hq; omega
  | succ n ih =>
    intro m i z y h1 h2 h3 hq
    match m, h3 with
    | 0, h3 => omega
    | m + 1, h3 =>
      rcases hs i z y h1 hq with ⟨r, r2, e1, e2, ho⟩ | ⟨hl, r, y2, r2, e1, e2, e3, ho⟩ | ⟨hl, z2, y2, e1, e2, hq2⟩
      · rw [kLoop_out e1, kLoop_out e2]
        exact ho
      · rw [kLoop_out e1, kLoop_in e2]
        match m, h3 with
        | 0, h3 => omega
        | m + 1, _ =>
          rw [kLoop_out e3]
          exact ho
      · rw [kLoop_in e1, kLoop_in e2]
        exact ih m (i + 1) z2 y2 (by omega) (by omega) (by omega) hq2
theorem mnR_0 (S : Nat → Nat → Int32) (j : Int64) : (mnR S j).1 = upd (S 0) 0 (S 0 0 + 1) := rfl
theorem kRel.minute32 {T : Int} {S : Nat → Nat → Int32} {j : Int64} {w : Nat → Int64} (h : kRel T S j w) (hn : kRn 0 w) (hT : 0 ≤ T ∧ T ≤ 30000) (f : Nat → Int32) : (s_X11_minute f w 32).toInt = (w 32).toInt + 1 := by
  obtain ⟨k1, _⟩ := h.minute hn hT f
  have a : (s_X11_minute f w 32).toInt = (mnS S (mnR S j) 0 0).toInt := (k1.e 32 (by decide)).1
  have e32 : kE (w 32) (S 0 0) 0 T := h.e 32 (by decide)
  rw [a, mnS_0, mnR_0, ups, ← (e32.add kE1 (by decide) (by omega)).1]
  exact i64_inc e32.kinL (by decide) (by omega)
abbrev kpS : Type := Int32 × (Nat → Int32) × (Nat → Int32) × (Nat → Int32) × Int64 × (Nat → Int32) × (Nat → Int32) × (Nat → Int32) × (Nat → Int32) × (Nat → Int32) × (Nat → Int32) × (Nat → Int32) × (Nat → Int32) × (Nat → Int32) × (Nat → Int32) × (Nat → Int32) × (Nat → Int32) × (Nat → Int32) × (Nat → Int32) × (Nat → Int32) × (Nat → Int32)
def pS (S : Nat → Nat → Int32) (z : kpS) : Nat → Nat → Int32 := (va_up (va_up (va_up (va_up (va_up (va_up (va_up (va_up (va_up (va_up (va_up (va_up (va_up (va_up (va_up (va_up (va_up (va_up (va_up S 0 z.2.1) 5 z.2.2.1) 6 z.2.2.2.1) 9 z.2.2.2.2.2.1) 11 z.2.2.2.2.2.2.1) 12 z.2.2.2.2.2.2.2.1) 13 z.2.2.2.2.2.2.2.2.1) 14 z.2.2.2.2.2.2.2.2.2.1) 15 z.2.2.2.2.2.2.2.2.2.2.1) 16 z.2.2.2.2.2.2.2.2.2.2.2.1) 17 z.2.2.2.2.2.2.2.2.2.2.2.2.1) 18 z.2.2.2.2.2.2.2.2.2.2.2.2.2.1) 19 z.2.2.2.2.2.2.2.2.2.2.2.2.2.2.1) 20 z.2.2.2.2.2.2.2.2.2.2.2.2.2.2.2.1) 21 z.2.2.2.2.2.2.2.2.2.2.2.2.2.2.2.2.1) 22 z.2.2.2.2.2.2.2.2.2.2.2.2.2.2.2.2.2.1) 23 z.2.2.2.2.2.2.2.2.2.2.2.2.2.2.2.2.2.2.1) 24 z.2.2.2.2.2.2.2.2.2.2.2.2.2.2.2.2.2.2.2.1) 25 z.2.2.2.2.2.2.2.2.2.2.2.2.2.2.2.2.2.2.2.2)
theorem pS_0 {S : Nat → Nat → Int32} {z : kpS} : pS S z 0 = z.2.1 := by
  unfold pS
  rw [va_n (show (0 : Nat) ≠ 25 by decide), va_n (show (0 : Nat) ≠ 24 by decide), va_n (show (0 : Nat) ≠ 23 by decide), va_n (show (0 : Nat) ≠ 22 by decide), va_n (show (0 : Nat) ≠ 21 by decide), va_n (show (0 : Nat) ≠ 20 by decide), va_n (show (0 : Nat) ≠ 19 by decide), va_n (show (0 : Nat) ≠ 18 by decide), va_n (show (0 : Nat) ≠ 17 by decide), va_n (show (0 : Nat) ≠ 16 by decide), va_n (show (0 : Nat) ≠ 15 by decide), va_n (show (0 : Nat) ≠ 14 by decide), va_n (show (0 : Nat) ≠ 13 by decide), va_n (show (0 : Nat) ≠ 12 by decide), va_n (show (0 : Nat) ≠ 11 by decide), va_n (show (0 : Nat) ≠ 9 by decide), va_n (show (0 : Nat) ≠ 6 by decide), va_n (show (0 : Nat) ≠ 5 by decide), va_s]
theorem pS_5 {S : Nat → Nat → Int32} {z : kpS} : pS S z 5 = z.2.2.1 := by
  unfold pS
  rw [va_n (show (5 : Nat) ≠ 25 by decide), va_n (show (5 : Nat) ≠ 24 by decide), va_n (show (5 : Nat) ≠ 23 by decide), va_n (show (5 : Nat) ≠ 22 by decide), va_n (show (5 : Nat) ≠ 21 by decide), va_n (show (5 : Nat) ≠ 20 by decide), va_n (show (5 : Nat) ≠ 19 by decide), va_n (show (5 : Nat) ≠ 18 by decide), va_n (show (5 : Nat) ≠ 17 by decide), va_n (show (5 : Nat) ≠ 16 by decide), va_n (show (5 : Nat) ≠ 15 by decide), va_n (show (5 : Nat) ≠ 14 by decide), va_n (show (5 : Nat) ≠ 13 by decide), va_n (show (5 : Nat) ≠ 12 by decide), va_n (show (5 : Nat) ≠ 11 by decide), va_n (show (5 : Nat) ≠ 9 by decide), va_n (show (5 : Nat) ≠ 6 by decide), va_s]
theorem pS_6 {S : Nat → Nat → Int32} {z : kpS} : pS S z 6 = z.2.2.2.1 := by
  unfold pS
  rw [va_n (show (6 : Nat) ≠ 25 by decide), va_n (show (6 : Nat) ≠ 24 by decide), va_n (show (6 : Nat) ≠ 23 by decide), va_n (show (6 : Nat) ≠ 22 by decide), va_n (show (6 : Nat) ≠ 21 by decide), va_n (show (6 : Nat) ≠ 20 by decide), va_n (show (6 : Nat) ≠ 19 by decide), va_n (show (6 : Nat) ≠ 18 by decide), va_n (show (6 : Nat) ≠ 17 by decide), va_n (show (6 : Nat) ≠ 16 by decide), va_n (show (6 : Nat) ≠ 15 by decide), va_n (show (6 : Nat) ≠ 14 by decide), va_n (show (6 : Nat) ≠ 13 by decide), va_n (show (6 : Nat) ≠ 12 by decide), va_n (show (6 : Nat) ≠ 11 by decide), va_n (show (6 : Nat) ≠ 9 by decide), va_s]
theorem pS_9 {S : Nat → Nat → Int32} {z : kpS} : pS S z 9 = z.2.2.2.2.2.1 := by
  unfold pS
  rw [va_n (show (9 : Nat) ≠ 25 by decide), va_n (show (9 : Nat) ≠ 24 by decide), va_n (show (9 : Nat) ≠ 23 by decide), va_n (show (9 : Nat) ≠ 22 by decide), va_n (show (9 : Nat) ≠ 21 by decide), va_n (show (9 : Nat) ≠ 20 by decide), va_n (show (9 : Nat) ≠ 19 by decide), va_n (show (9 : Nat) ≠ 18 by decide), va_n (show (9 : Nat) ≠ 17 by decide), va_n (show (9 : Nat) ≠ 16 by decide), va_n (show (9 : Nat) ≠ 15 by decide), va_n (show (9 : Nat) ≠ 14 by decide), va_n (show (9 : Nat) ≠ 13 by decide), va_n (show (9 : Nat) ≠ 12 by decide), va_n (show (9 : Nat) ≠ 11 by decide), va_s]
theorem pS_11 {S : Nat → Nat → Int32} {z : kpS} : pS S z 11 = z.2.2.2.2.2.2.1 := by
  unfold pS
  rw [va_n (show (11 : Nat) ≠ 25 by decide), va_n (show (11 : Nat) ≠ 24 by decide), va_n (show (11 : Nat) ≠ 23 by decide), va_n (show (11 : Nat) ≠ 22 by decide), va_n (show (11 : Nat) ≠ 21 by decide), va_n (show (11 : Nat) ≠ 20 by decide), va_n (show (11 : Nat) ≠ 19 by decide), va_n (show (11 : Nat) ≠ 18 by decide), va_n (show (11 : Nat) ≠ 17 by decide), va_n (show (11 : Nat) ≠ 16 by decide), va_n (show (11 : Nat) ≠ 15 by decide), va_n (show (11 : Nat) ≠ 14 by decide), va_n (show (11 : Nat) ≠ 13 by decide), va_n (show (11 : Nat) ≠ 12 by decide), va_s]
theorem pS_12 {S : Nat → Nat → Int32} {z : kpS} : pS S z 12 = z.2.2.2.2.2.2.2.1 := by
  unfold pS
  rw [va_n (show (12 : Nat) ≠ 25 by decide), va_n (show (12 : Nat) ≠ 24 by decide), va_n (show (12 : Nat) ≠ 23 by decide), va_n (show (12 : Nat) ≠ 22 by decide), va_n (show (12 : Nat) ≠ 21 by decide), va_n (show (12 : Nat) ≠ 20 by decide), va_n (show (12 : Nat) ≠ 19 by decide), va_n (show (12 : Nat) ≠ 18 by decide), va_n (show (12 : Nat) ≠ 17 by decide), va_n (show (12 : Nat) ≠ 16 by decide), va_n (show (12 : Nat) ≠ 15 by decide), va_n (show (12 : Nat) ≠ 14 by decide), va_n (show (12 : Nat) ≠ 13 by decide), va_s]
theorem pS_13 {S : Nat → Nat → Int32} {z : kpS} : pS S z 13 = z.2.2.2.2.2.2.2.2.1 := by
  unfold pS
  rw [va_n (show (13 : Nat) ≠ 25 by decide), va_n (show (13 : Nat) ≠ 24 by decide), va_n (show (13 : Nat) ≠ 23 by decide), va_n (show (13 : Nat) ≠ 22 by decide), va_n (show (13 : Nat) ≠ 21 by decide), va_n (show (13 : Nat) ≠ 20 by decide), va_n (show (13 : Nat) ≠ 19 by decide), va_n (show (13 : Nat) ≠ 18 by decide), va_n (show (13 : Nat) ≠ 17 by decide), va_n (show (13 : Nat) ≠ 16 by decide), va_n (show (13 : Nat) ≠ 15 by decide), va_n (show (13 : Nat) ≠ 14 by decide), va_s]
theorem pS_14 {S : Nat → Nat → Int32} {z : kpS} : pS S z 14 = z.2.2.2.2.2.2.2.2.2.1 := by
  unfold pS
  rw [va_n (show (14 : Nat) ≠ 25 by decide), va_n (show (14 : Nat) ≠ 24 by decide), va_n (show (14 : Nat) ≠ 23 by decide), va_n (show (14 : Nat) ≠ 22 by decide), va_n (show (14 : Nat) ≠ 21 by decide), va_n (show (14 : Nat) ≠ 20 by decide), va_n (show (14 : Nat) ≠ 19 by decide), va_n (show (14 : Nat) ≠ 18 by decide), va_n (show (14 : Nat) ≠ 17 by decide), va_n (show (14 : Nat) ≠ 16 by decide), va_n (show (14 : Nat) ≠ 15 by decide), va_s]
theorem pS_15 {S : Nat → Nat → Int32} {z : kpS} : pS S z 15 = z.2.2.2.2.2.2.2.2.2.2.1 := by
  unfold pS
  rw [va_n (show (15 : Nat) ≠ 25 by decide), va_n (show (15 : Nat) ≠ 24 by decide), va_n (show (15 : Nat) ≠ 23 by decide), va_n (show (15 : Nat) ≠ 22 by decide), va_n (show (15 : Nat) ≠ 21 by decide), va_n (show (15 : Nat) ≠ 20 by decide), va_n (show (15 : Nat) ≠ 19 by decide), va_n (show (15 : Nat) ≠ 18 by decide), va_n (show (15 : Nat) ≠ 17 by decide), va_n (show (15 : Nat) ≠ 16 by decide), va_s]
theorem pS_16 {S : Nat → Nat → Int32} {z : kpS} : pS S z 16 = z.2.2.2.2.2.2.2.2.2.2.2.1 := by
  unfold pS
  rw [va_n (show (16 : Nat) ≠ 25 by decide), va_n (show (16 : Nat) ≠ 24 by decide), va_n (show (16 : Nat) ≠ 23 by decide), va_n (show (16 : Nat) ≠ 22 by decide), va_n (show (16 : Nat) ≠ 21 by decide), va_n (show (16 : Nat) ≠ 20 by decide), va_n (show (16 : Nat) ≠ 19 by decide), va_n (show (16 : Nat) ≠ 18 by decide), va_n (show (16 : Nat) ≠ 17 by decide), va_s]
theorem pS_17 {S : Nat → Nat → Int32} {z : kpS} : pS S z 17 = z.2.2.2.2.2.2.2.2.2.2.2.2.1 := by
  unfold pS
  rw [va_n (show (17 : Nat) ≠ 25 by decide), va_n (show (17 : Nat) ≠ 24 by decide), va_n (show (17 : Nat) ≠ 23 by decide), va_n (show (17 : Nat) ≠ 22 by decide), va_n (show (17 : Nat) ≠ 21 by decide), va_n (show (17 : Nat) ≠ 20 by decide), va_n (show (17 : Nat) ≠ 19 by decide), va_n (show (17 : Nat) ≠ 18 by decide), va_s]
theorem pS_18 {S : Nat → Nat → Int32} {z : kpS} : pS S z 18 = z.2.2.2.2.2.2.2.2.2.2.2.2.2.1 := by
  unfold pS
  rw [va_n (show (18 : Nat) ≠ 25 by decide), va_n (show (18 : Nat) ≠ 24 by decide), va_n (show (18 : Nat) ≠ 23 by decide), va_n (show (18 : Nat) ≠ 22 by decide), va_n (show (18 : Nat) ≠ 21 by decide), va_n (show (18 : Nat) ≠ 20 by decide), va_n (show (18 : Nat) ≠ 19 by decide), va_s]
theorem pS_19 {S : Nat → Nat → Int32} {z : kpS} : pS S z 19 = z.2.2.2.2.2.2.2.2.2.2.2.2.2.2.1 := by
  unfold pS
  rw [va_n (show (19 : Nat) ≠ 25 by decide), va_n (show (19 : Nat) ≠ 24 by decide), va_n (show (19 : Nat) ≠ 23 by decide), va_n (show (19 : Nat) ≠ 22 by decide), va_n (show (19 : Nat) ≠ 21 by decide), va_n (show (19 : Nat) ≠ 20 by decide), va_s]
theorem pS_20 {S : Nat → Nat → Int32} {z : kpS} : pS S z 20 = z.2.2.2.2.2.2.2.2.2.2.2.2.2.2.2.1 := by
  unfold pS
  rw [va_n (show (20 : Nat) ≠ 25 by decide), va_n (show (20 : Nat) ≠ 24 by decide), va_n (show (20 : Nat) ≠ 23 by decide), va_n (show (20 : Nat) ≠ 22 by decide), va_n (show (20 : Nat) ≠ 21 by decide), va_s]
theorem pS_21 {S : Nat → Nat → Int32} {z : kpS} : pS S z 21 = z.2.2.2.2.2.2.2.2.2.2.2.2.2.2.2.2.1 := by
  unfold pS
  rw [va_n (show (21 : Nat) ≠ 25 by decide), va_n (show (21 : Nat) ≠ 24 by decide), va_n (show (21 : Nat) ≠ 23 by decide), va_n (show (21 : Nat) ≠ 22 by decide), va_s]
theorem pS_22 {S : Nat → Nat → Int32} {z : kpS} : pS S z 22 = z.2.2.2.2.2.2.2.2.2.2.2.2.2.2.2.2.2.1 := by
  unfold pS
  rw [va_n (show (22 : Nat) ≠ 25 by decide), va_n (show (22 : Nat) ≠ 24 by decide), va_n (show (22 : Nat) ≠ 23 by decide), va_s]
theorem pS_23 {S : Nat → Nat → Int32} {z : kpS} : pS S z 23 = z.2.2.2.2.2.2.2.2.2.2.2.2.2.2.2.2.2.2.1 := by
  unfold pS
  rw [va_n (show (23 : Nat) ≠ 25 by decide), va_n (show (23 : Nat) ≠ 24 by decide), va_s]
theorem pS_24 {S : Nat → Nat → Int32} {z : kpS} : pS S z 24 = z.2.2.2.2.2.2.2.2.2.2.2.2.2.2.2.2.2.2.2.1 := by
  unfold pS
  rw [va_n (show (24 : Nat) ≠ 25 by decide), va_s]
theorem pS_25 {S : Nat → Nat → Int32} {z : kpS} : pS S z 25 = z.2.2.2.2.2.2.2.2.2.2.2.2.2.2.2.2.2.2.2.2 := by
  unfold pS
  rw [va_s]
theorem pS_lo {S : Nat → Nat → Int32} {z : kpS} {a : Nat} (h : a = 1 ∨ a = 2 ∨ a = 3 ∨ a = 4 ∨ a = 7 ∨ a = 8 ∨ a = 10) : pS S z a = S a := by
  unfold pS
  rw [va_n (show a ≠ 25 by omega), va_n (show a ≠ 24 by omega), va_n (show a ≠ 23 by omega), va_n (show a ≠ 22 by omega), va_n (show a ≠ 21 by omega), va_n (show a ≠ 20 by omega), va_n (show a ≠ 19 by omega), va_n (show a ≠ 18 by omega), va_n (show a ≠ 17 by omega), va_n (show a ≠ 16 by omega), va_n (show a ≠ 15 by omega), va_n (show a ≠ 14 by omega), va_n (show a ≠ 13 by omega), va_n (show a ≠ 12 by omega), va_n (show a ≠ 11 by omega), va_n (show a ≠ 9 by omega), va_n (show a ≠ 6 by omega), va_n (show a ≠ 5 by omega), va_n (show a ≠ 0 by omega)]
theorem pS_step {T : Int} {S : Nat → Nat → Int32} {z : kpS} {w : Nat → Int64} (h : kRel T (pS S z) z.2.2.2.2.1 w) (hn : kRn 0 w) (hT : 0 ≤ T ∧ T ≤ 30000) (f : Nat → Int32) (i2 : Int32) : kRel (T + 1) (pS S (i2, (mnR (pS S z) z.2.2.2.2.1).1, (mnR (pS S z) z.2.2.2.2.1).2.1, (mnR (pS S z) z.2.2.2.2.1).2.2.1, (mnR (pS S z) z.2.2.2.2.1).2.2.2.1, (mnR (pS S z) z.2.2.2.2.1).2.2.2.2.2.2.2.2.2.2.1, (mnR (pS S z) z.2.2.2.2.1).2.2.2.2.2.2.2.2.2.2.2.2.1, (mnR (pS S z) z.2.2.2.2.1).2.2.2.2.2.2.2.2.2.2.2.2.2.2.1, (mnR (pS S z) z.2.2.2.2.1).2.2.2.2.2.2.2.2.2.2.2.2.2.2.2.2.1, (mnR (pS S z) z.2.2.2.2.1).2.2.2.2.2.2.2.2.2.2.2.2.2.2.2.2.2.2.1, (mnR (pS S z) z.2.2.2.2.1).2.2.2.2.2.2.2.2.2.2.2.2.2.1, (mnR (pS S z) z.2.2.2.2.1).2.2.2.2.2.2.2.2.2.2.2.2.2.2.2.1, (mnR (pS S z) z.2.2.2.2.1).2.2.2.2.2.2.2.2.2.2.2.2.2.2.2.2.2.1, (mnR (pS S z) z.2.2.2.2.1).2.2.2.2.2.2.2.2.2.2.2.2.2.2.2.2.2.2.2, (mnR (pS S z) z.2.2.2.2.1).2.2.2.2.1, (mnR (pS S z) z.2.2.2.2.1).2.2.2.2.2.2.1, (mnR (pS S z) z.2.2.2.2.1).2.2.2.2.2.2.2.2.1, (mnR (pS S z) z.2.2.2.2.1).2.2.2.2.2.1, (mnR (pS S z) z.2.2.2.2.1).2.2.2.2.2.2.2.1, (mnR (pS S z) z.2.2.2.2.1).2.2.2.2.2.2.2.2.2.1, (mnR (pS S z) z.2.2.2.2.1).2.2.2.2.2.2.2.2.2.2.2.1)) (mnR (pS S z) z.2.2.2.2.1).2.2.2.1 (s_X11_minute f w) ∧ kRn 0 (s_X11_minute f w) := by
  obtain ⟨k1, k2⟩ := h.minute hn hT f
  generalize mnR (pS S z) z.2.2.2.2.1 = r at k1 ⊢
  obtain ⟨x0, x5, x6, xJ, x19, x22, x20, x23, x21, x24, x9, x25, x11, x15, x12, x16, x13, x17, x14, x18⟩ := r
  refine ⟨k1.cgA (fun a ha => ?_), k2⟩
  exact
    match a, ha with
    | 0, _ => pS_0.trans (mnS_0 (S := pS S z) (r := (x0, x5, x6, xJ, x19, x22, x20, x23, x21, x24, x9, x25, x11, x15, x12, x16, x13, x17, x14, x18))).symm
    | 1, _ => ((pS_lo (by decide)).trans (pS_lo (by decide)).symm).trans (mnS_lo (by decide)).symm
    | 2, _ => ((pS_lo (by decide)).trans (pS_lo (by decide)).symm).trans (mnS_lo (by decide)).symm
    | 3, _ => ((pS_lo (by decide)).trans (pS_lo (by decide)).symm).trans (mnS_lo (by decide)).symm
    | 4, _ => ((pS_lo (by decide)).trans (pS_lo (by decide)).symm).trans (mnS_lo (by decide)).symm
    | 5, _ => pS_5.trans (mnS_5 (S := pS S z) (r := (x0, x5, x6, xJ, x19, x22, x20, x23, x21, x24, x9, x25, x11, x15, x12, x16, x13, x17, x14, x18))).symm
    | 6, _ => pS_6.trans (mnS_6 (S := pS S z) (r := (x0, x5, x6, xJ, x19, x22, x20, x23, x21, x24, x9, x25, x11, x15, x12, x16, x13, x17, x14, x18))).symm
    | 7, _ => ((pS_lo (by decide)).trans (pS_lo (by decide)).symm).trans (mnS_lo (by decide)).symm
    | 8, _ => ((pS_lo (by decide)).trans (pS_lo (by decide)).symm).trans (mnS_lo (by decide)).symm
    | 9, _ => pS_9.trans (mnS_9 (S := pS S z) (r := (x0, x5, x6, xJ, x19, x22, x20, x23, x21, x24, x9, x25, x11, x15, x12, x16, x13, x17, x14, x18))).symm
    | 10, _ => ((pS_lo (by decide)).trans (pS_lo (by decide)).symm).trans (mnS_lo (by decide)).symm
    | 11, _ => pS_11.trans (mnS_11 (S := pS S z) (r := (x0, x5, x6, xJ, x19, x22, x20, x23, x21, x24, x9, x25, x11, x15, x12, x16, x13, x17, x14, x18))).symm
    | 12, _ => pS_12.trans (mnS_12 (S := pS S z) (r := (x0, x5, x6, xJ, x19, x22, x20, x23, x21, x24, x9, x25, x11, x15, x12, x16, x13, x17, x14, x18))).symm
    | 13, _ => pS_13.trans (mnS_13 (S := pS S z) (r := (x0, x5, x6, xJ, x19, x22, x20, x23, x21, x24, x9, x25, x11, x15, x12, x16, x13, x17, x14, x18))).symm
    | 14, _ => pS_14.trans (mnS_14 (S := pS S z) (r := (x0, x5, x6, xJ, x19, x22, x20, x23, x21, x24, x9, x25, x11, x15, x12, x16, x13, x17, x14, x18))).symm
    | 15, _ => pS_15.trans (mnS_15 (S := pS S z) (r := (x0, x5, x6, xJ, x19, x22, x20, x23, x21, x24, x9, x25, x11, x15, x12, x16, x13, x17, x14, x18))).symm
    | 16, _ => pS_16.trans (mnS_16 (S := pS S z) (r := (x0, x5, x6, xJ, x19, x22, x20, x23, x21, x24, x9, x25, x11, x15, x12, x16, x13, x17, x14, x18))).symm
    | 17, _ => pS_17.trans (mnS_17 (S := pS S z) (r := (x0, x5, x6, xJ, x19, x22, x20, x23, x21, x24, x9, x25, x11, x15, x12, x16, x13, x17, x14, x18))).symm
    | 18, _ => pS_18.trans (mnS_18 (S := pS S z) (r := (x0, x5, x6, xJ, x19, x22, x20, x23, x21, x24, x9, x25, x11, x15, x12, x16, x13, x17, x14, x18))).symm
    | 19, _ => pS_19.trans (mnS_19 (S := pS S z) (r := (x0, x5, x6, xJ, x19, x22, x20, x23, x21, x24, x9, x25, x11, x15, x12, x16, x13, x17, x14, x18))).symm
    | 20, _ => pS_20.trans (mnS_20 (S := pS S z) (r := (x0, x5, x6, xJ, x19, x22, x20, x23, x21, x24, x9, x25, x11, x15, x12, x16, x13, x17, x14, x18))).symm
    | 21, _ => pS_21.trans (mnS_21 (S := pS S z) (r := (x0, x5, x6, xJ, x19, x22, x20, x23, x21, x24, x9, x25, x11, x15, x12, x16, x13, x17, x14, x18))).symm
    | 22, _ => pS_22.trans (mnS_22 (S := pS S z) (r := (x0, x5, x6, xJ, x19, x22, x20, x23, x21, x24, x9, x25, x11, x15, x12, x16, x13, x17, x14, x18))).symm
    | 23, _ => pS_23.trans (mnS_23 (S := pS S z) (r := (x0, x5, x6, xJ, x19, x22, x20, x23, x21, x24, x9, x25, x11, x15, x12, x16, x13, x17, x14, x18))).symm
    | 24, _ => pS_24.trans (mnS_24 (S := pS S z) (r := (x0, x5, x6, xJ, x19, x22, x20, x23, x21, x24, x9, x25, x11, x15, x12, x16, x13, x17, x14, x18))).symm
    | 25, _ => pS_25.trans (mnS_25 (S := pS S z) (r := (x0, x5, x6, xJ, x19, x22, x20, x23, x21, x24, x9, x25, x11, x15, x12, x16, x13, x17, x14, x18))).symm
    | n + 26, h => absurd h (by omega)
theorem pS_let (S : Nat → Nat → Int32) (z : kpS) : s_X7_letMinutePass z.2.1 z.2.2.1 (S 4) (S 10) z.2.2.2.1 (S 1) (S 2) z.2.2.2.2.1 z.2.2.2.2.2.2.2.2.2.2.2.2.2.2.1 z.2.2.2.2.2.2.2.2.2.2.2.2.2.2.2.2.2.1 z.2.2.2.2.2.2.2.2.2.2.2.2.2.2.2.1 z.2.2.2.2.2.2.2.2.2.2.2.2.2.2.2.2.2.2.1 z.2.2.2.2.2.2.2.2.2.2.2.2.2.2.2.2.1 z.2.2.2.2.2.2.2.2.2.2.2.2.2.2.2.2.2.2.2.1 (S 3) z.2.2.2.2.2.1 z.2.2.2.2.2.2.2.2.2.2.2.2.2.2.2.2.2.2.2.2 z.2.2.2.2.2.2.1 z.2.2.2.2.2.2.2.2.2.2.1 z.2.2.2.2.2.2.2.1 z.2.2.2.2.2.2.2.2.2.2.2.1 z.2.2.2.2.2.2.2.2.1 z.2.2.2.2.2.2.2.2.2.2.2.2.1 z.2.2.2.2.2.2.2.2.2.1 z.2.2.2.2.2.2.2.2.2.2.2.2.2.1 = mnR (pS S z) z.2.2.2.2.1 := by
  unfold mnR
  rw [pS_0, pS_5, pS_lo (show (4 : Nat) = 1 ∨ (4 : Nat) = 2 ∨ (4 : Nat) = 3 ∨ (4 : Nat) = 4 ∨ (4 : Nat) = 7 ∨ (4 : Nat) = 8 ∨ (4 : Nat) = 10 by decide), pS_lo (show (10 : Nat) = 1 ∨ (10 : Nat) = 2 ∨ (10 : Nat) = 3 ∨ (10 : Nat) = 4 ∨ (10 : Nat) = 7 ∨ (10 : Nat) = 8 ∨ (10 : Nat) = 10 by decide), pS_6, pS_lo (show (1 : Nat) = 1 ∨ (1 : Nat) = 2 ∨ (1 : Nat) = 3 ∨ (1 : Nat) = 4 ∨ (1 : Nat) = 7 ∨ (1 : Nat) = 8 ∨ (1 : Nat) = 10 by decide), pS_lo (show (2 : Nat) = 1 ∨ (2 : Nat) = 2 ∨ (2 : Nat) = 3 ∨ (2 : Nat) = 4 ∨ (2 : Nat) = 7 ∨ (2 : Nat) = 8 ∨ (2 : Nat) = 10 by decide), pS_19, pS_22, pS_20, pS_23, pS_21, pS_24, pS_lo (show (3 : Nat) = 1 ∨ (3 : Nat) = 2 ∨ (3 : Nat) = 3 ∨ (3 : Nat) = 4 ∨ (3 : Nat) = 7 ∨ (3 : Nat) = 8 ∨ (3 : Nat) = 10 by decide), pS_9, pS_25, pS_11, pS_15, pS_12, pS_16, pS_13, pS_17, pS_14, pS_18]
abbrev kvS : Type := Int32 × (Nat → Int32) × (Nat → Int32) × (Nat → Int32) × (Nat → Int32) × (Nat → Int32) × (Nat → Int32) × (Nat → Int32) × (Nat → Int32) × (Nat → Int32) × (Nat → Int32) × (Nat → Int32) × Int64 × (Nat → Int32) × (Nat → Int32) × (Nat → Int32) × (Nat → Int32) × (Nat → Int32) × (Nat → Int32) × (Nat → Int32) × (Nat → Int32)
def vS (S : Nat → Nat → Int32) (z : kvS) : Nat → Nat → Int32 := (va_up (va_up (va_up (va_up (va_up (va_up (va_up (va_up (va_up (va_up (va_up (va_up (va_up (va_up (va_up (va_up (va_up (va_up (va_up S 0 z.2.1) 5 z.2.2.1) 6 z.2.2.2.1) 11 z.2.2.2.2.1) 15 z.2.2.2.2.2.1) 12 z.2.2.2.2.2.2.1) 16 z.2.2.2.2.2.2.2.1) 13 z.2.2.2.2.2.2.2.2.1) 17 z.2.2.2.2.2.2.2.2.2.1) 14 z.2.2.2.2.2.2.2.2.2.2.1) 18 z.2.2.2.2.2.2.2.2.2.2.2.1) 19 z.2.2.2.2.2.2.2.2.2.2.2.2.2.1) 22 z.2.2.2.2.2.2.2.2.2.2.2.2.2.2.1) 20 z.2.2.2.2.2.2.2.2.2.2.2.2.2.2.2.1) 23 z.2.2.2.2.2.2.2.2.2.2.2.2.2.2.2.2.1) 21 z.2.2.2.2.2.2.2.2.2.2.2.2.2.2.2.2.2.1) 24 z.2.2.2.2.2.2.2.2.2.2.2.2.2.2.2.2.2.2.1) 9 z.2.2.2.2.2.2.2.2.2.2.2.2.2.2.2.2.2.2.2.1) 25 z.2.2.2.2.2.2.2.2.2.2.2.2.2.2.2.2.2.2.2.2)
theorem vS_0 {S : Nat → Nat → Int32} {z : kvS} : vS S z 0 = z.2.1 := by
  unfold vS
  rw [va_n (show (0 : Nat) ≠ 25 by decide), va_n (show (0 : Nat) ≠ 9 by decide), va_n (show (0 : Nat) ≠ 24 by decide), va_n (show (0 : Nat) ≠ 21 by decide), va_n (show (0 : Nat) ≠ 23 by decide), va_n (show (0 : Nat) ≠ 20 by decide), va_n (show (0 : Nat) ≠ 22 by decide), va_n (show (0 : Nat) ≠ 19 by decide), va_n (show (0 : Nat) ≠ 18 by decide), va_n (show (0 : Nat) ≠ 14 by decide), va_n (show (0 : Nat) ≠ 17 by decide), va_n (show (0 : Nat) ≠ 13 by decide), va_n (show (0 : Nat) ≠ 16 by decide), va_n (show (0 : Nat) ≠ 12 by decide), va_n (show (0 : Nat) ≠ 15 by decide), va_n (show (0 : Nat) ≠ 11 by decide), va_n (show (0 : Nat) ≠ 6 by decide), va_n (show (0 : Nat) ≠ 5 by decide), va_s]
theorem vS_5 {S : Nat → Nat → Int32} {z : kvS} : vS S z 5 = z.2.2.1 := by
  unfold vS
  rw [va_n (show (5 : Nat) ≠ 25 by decide), va_n (show (5 : Nat) ≠ 9 by decide), va_n (show (5 : Nat) ≠ 24 by decide), va_n (show (5 : Nat) ≠ 21 by decide), va_n (show (5 : Nat) ≠ 23 by decide), va_n (show (5 : Nat) ≠ 20 by decide), va_n (show (5 : Nat) ≠ 22 by decide), va_n (show (5 : Nat) ≠ 19 by decide), va_n (show (5 : Nat) ≠ 18 by decide), va_n (show (5 : Nat) ≠ 14 by decide), va_n (show (5 : Nat) ≠ 17 by decide), va_n (show (5 : Nat) ≠ 13 by decide), va_n (show (5 : Nat) ≠ 16 by decide), va_n (show (5 : Nat) ≠ 12 by decide), va_n (show (5 : Nat) ≠ 15 by decide), va_n (show (5 : Nat) ≠ 11 by decide), va_n (show (5 : Nat) ≠ 6 by decide), va_s]
theorem vS_6 {S : Nat → Nat → Int32} {z : kvS} : vS S z 6 = z.2.2.2.1 := by
  unfold vS
  rw [va_n (show (6 : Nat) ≠ 25 by decide), va_n (show (6 : Nat) ≠ 9 by decide), va_n (show (6 : Nat) ≠ 24 by decide), va_n (show (6 : Nat) ≠ 21 by decide), va_n (show (6 : Nat) ≠ 23 by decide), va_n (show (6 : Nat) ≠ 20 by decide), va_n (show (6 : Nat) ≠ 22 by decide), va_n (show (6 : Nat) ≠ 19 by decide), va_n (show (6 : Nat) ≠ 18 by decide), va_n (show (6 : Nat) ≠ 14 by decide), va_n (show (6 : Nat) ≠ 17 by decide), va_n (show (6 : Nat) ≠ 13 by decide), va_n (show (6 : Nat) ≠ 16 by decide), va_n (show (6 : Nat) ≠ 12 by decide), va_n (show (6 : Nat) ≠ 15 by decide), va_n (show (6 : Nat) ≠ 11 by decide), va_s]
theorem vS_11 {S : Nat → Nat → Int32} {z : kvS} : vS S z 11 = z.2.2.2.2.1 := by
  unfold vS
  rw [va_n (show (11 : Nat) ≠ 25 by decide), va_n (show (11 : Nat) ≠ 9 by decide), va_n (show (11 : Nat) ≠ 24 by decide), va_n (show (11 : Nat) ≠ 21 by decide), va_n (show (11 : Nat) ≠ 23 by decide), va_n (show (11 : Nat) ≠ 20 by decide), va_n (show (11 : Nat) ≠ 22 by decide), va_n (show (11 : Nat) ≠ 19 by decide), va_n (show (11 : Nat) ≠ 18 by decide), va_n (show (11 : Nat) ≠ 14 by decide), va_n (show (11 : Nat) ≠ 17 by decide), va_n (show (11 : Nat) ≠ 13 by decide), va_n (show (11 : Nat) ≠ 16 by decide), va_n (show (11 : Nat) ≠ 12 by decide), va_n (show (11 : Nat) ≠ 15 by decide), va_s]
theorem vS_15 {S : Nat → Nat → Int32} {z : kvS} : vS S z 15 = z.2.2.2.2.2.1 := by
  unfold vS
  rw [va_n (show (15 : Nat) ≠ 25 by decide), va_n (show (15 : Nat) ≠ 9 by decide), va_n (show (15 : Nat) ≠ 24 by decide), va_n (show (15 : Nat) ≠ 21 by decide), va_n (show (15 : Nat) ≠ 23 by decide), va_n (show (15 : Nat) ≠ 20 by decide), va_n (show (15 : Nat) ≠ 22 by decide), va_n (show (15 : Nat) ≠ 19 by decide), va_n (show (15 : Nat) ≠ 18 by decide), va_n (show (15 : Nat) ≠ 14 by decide), va_n (show (15 : Nat) ≠ 17 by decide), va_n (show (15 : Nat) ≠ 13 by decide), va_n (show (15 : Nat) ≠ 16 by decide), va_n (show (15 : Nat) ≠ 12 by decide), va_s]
theorem vS_12 {S : Nat → Nat → Int32} {z : kvS} : vS S z 12 = z.2.2.2.2.2.2.1 := by
  unfold vS
  rw [va_n (show (12 : Nat) ≠ 25 by decide), va_n (show (12 : Nat) ≠ 9 by decide), va_n (show (12 : Nat) ≠ 24 by decide), va_n (show (12 : Nat) ≠ 21 by decide), va_n (show (12 : Nat) ≠ 23 by decide), va_n (show (12 : Nat) ≠ 20 by decide), va_n (show (12 : Nat) ≠ 22 by decide), va_n (show (12 : Nat) ≠ 19 by decide), va_n (show (12 : Nat) ≠ 18 by decide), va_n (show (12 : Nat) ≠ 14 by decide), va_n (show (12 : Nat) ≠ 17 by decide), va_n (show (12 : Nat) ≠ 13 by decide), va_n (show (12 : Nat) ≠ 16 by decide), va_s]
theorem vS_16 {S : Nat → Nat → Int32} {z : kvS} : vS S z 16 = z.2.2.2.2.2.2.2.1 := by
  unfold vS
  rw [va_n (show (16 : Nat) ≠ 25 by decide), va_n (show (16 : Nat) ≠ 9 by decide), va_n (show (16 : Nat) ≠ 24 by decide), va_n (show (16 : Nat) ≠ 21 by decide), va_n (show (16 : Nat) ≠ 23 by decide), va_n (show (16 : Nat) ≠ 20 by decide), va_n (show (16 : Nat) ≠ 22 by decide), va_n (show (16 : Nat) ≠ 19 by decide), va_n (show (16 : Nat) ≠ 18 by decide), va_n (show (16 : Nat) ≠ 14 by decide), va_n (show (16 : Nat) ≠ 17 by decide), va_n (show (16 : Nat) ≠ 13 by decide), va_s]
theorem vS_13 {S : Nat → Nat → Int32} {z : kvS} : vS S z 13 = z.2.2.2.2.2.2.2.2.1 := by
  unfold vS
  rw [va_n (show (13 : Nat) ≠ 25 by decide), va_n (show (13 : Nat) ≠ 9 by decide), va_n (show (13 : Nat) ≠ 24 by decide), va_n (show (13 : Nat) ≠ 21 by decide), va_n (show (13 : Nat) ≠ 23 by decide), va_n (show (13 : Nat) ≠ 20 by decide), va_n (show (13 : Nat) ≠ 22 by decide), va_n (show (13 : Nat) ≠ 19 by decide), va_n (show (13 : Nat) ≠ 18 by decide), va_n (show (13 : Nat) ≠ 14 by decide), va_n (show (13 : Nat) ≠ 17 by decide), va_s]
theorem vS_17 {S : Nat → Nat → Int32} {z : kvS} : vS S z 17 = z.2.2.2.2.2.2.2.2.2.1 := by
  unfold vS
  rw [va_n (show (17 : Nat) ≠ 25 by decide), va_n (show (17 : Nat) ≠ 9 by decide), va_n (show (17 : Nat) ≠ 24 by decide), va_n (show (17 : Nat) ≠ 21 by decide), va_n (show (17 : Nat) ≠ 23 by decide), va_n (show (17 : Nat) ≠ 20 by decide), va_n (show (17 : Nat) ≠ 22 by decide), va_n (show (17 : Nat) ≠ 19 by decide), va_n (show (17 : Nat) ≠ 18 by decide), va_n (show (17 : Nat) ≠ 14 by decide), va_s]
theorem vS_14 {S : Nat → Nat → Int32} {z : kvS} : vS S z 14 = z.2.2.2.2.2.2.2.2.2.2.1 := by
  unfold vS
  rw [va_n (show (14 : Nat) ≠ 25 by decide), va_n (show (14 : Nat) ≠ 9 by decide), va_n (show (14 : Nat) ≠ 24 by decide), va_n (show (14 : Nat) ≠ 21 by decide), va_n (show (14 : Nat) ≠ 23 by decide), va_n (show (14 : Nat) ≠ 20 by decide), va_n (show (14 : Nat) ≠ 22 by decide), va_n (show (14 : Nat) ≠ 19 by decide), va_n (show (14 : Nat) ≠ 18 by decide), va_s]
theorem vS_18 {S : Nat → Nat → Int32} {z : kvS} : vS S z 18 = z.2.2.2.2.2.2.2.2.2.2.2.1 := by
  unfold vS
  rw [va_n (show (18 : Nat) ≠ 25 by decide), va_n (show (18 : Nat) ≠ 9 by decide), va_n (show (18 : Nat) ≠ 24 by decide), va_n (show (18 : Nat) ≠ 21 by decide), va_n (show (18 : Nat) ≠ 23 by decide), va_n (show (18 : Nat) ≠ 20 by decide), va_n (show (18 : Nat) ≠ 22 by decide), va_n (show (18 : Nat) ≠ 19 by decide), va_s]
theorem vS_19 {S : Nat → Nat → Int32} {z : kvS} : vS S z 19 = z.2.2.2.2.2.2.2.2.2.2.2.2.2.1 := by
  unfold vS
  rw [va_n (show (19 : Nat) ≠ 25 by decide), va_n (show (19 : Nat) ≠ 9 by decide), va_n (show (19 : Nat) ≠ 24 by decide), va_n (show (19 : Nat) ≠ 21 by decide), va_n (show (19 : Nat) ≠ 23 by decide), va_n (show (19 : Nat) ≠ 20 by decide), va_n (show (19 : Nat) ≠ 22 by decide), va_s]
theorem vS_22 {S : Nat → Nat → Int32} {z : kvS} : vS S z 22 = z.2.2.2.2.2.2.2.2.2.2.2.2.2.2.1 := by
  unfold vS
  rw [va_n (show (22 : Nat) ≠ 25 by decide), va_n (show (22 : Nat) ≠ 9 by decide), va_n (show (22 : Nat) ≠ 24 by decide), va_n (show (22 : Nat) ≠ 21 by decide), va_n (show (22 : Nat) ≠ 23 by decide), va_n (show (22 : Nat) ≠ 20 by decide), va_s]
theorem vS_20 {S : Nat → Nat → Int32} {z : kvS} : vS S z 20 = z.2.2.2.2.2.2.2.2.2.2.2.2.2.2.2.1 := by
  unfold vS
  rw [va_n (show (20 : Nat) ≠ 25 by decide), va_n (show (20 : Nat) ≠ 9 by decide), va_n (show (20 : Nat) ≠ 24 by decide), va_n (show (20 : Nat) ≠ 21 by decide), va_n (show (20 : Nat) ≠ 23 by decide), va_s]
theorem vS_23 {S : Nat → Nat → Int32} {z : kvS} : vS S z 23 = z.2.2.2.2.2.2.2.2.2.2.2.2.2.2.2.2.1 := by
  unfold vS
  rw [va_n (show (23 : Nat) ≠ 25 by decide), va_n (show (23 : Nat) ≠ 9 by decide), va_n (show (23 : Nat) ≠ 24 by decide), va_n (show (23 : Nat) ≠ 21 by decide), va_s]
theorem vS_21 {S : Nat → Nat → Int32} {z : kvS} : vS S z 21 = z.2.2.2.2.2.2.2.2.2.2.2.2.2.2.2.2.2.1 := by
  unfold vS
  rw [va_n (show (21 : Nat) ≠ 25 by decide), va_n (show (21 : Nat) ≠ 9 by decide), va_n (show (21 : Nat) ≠ 24 by decide), va_s]
theorem vS_24 {S : Nat → Nat → Int32} {z : kvS} : vS S z 24 = z.2.2.2.2.2.2.2.2.2.2.2.2.2.2.2.2.2.2.1 := by
  unfold vS
  rw [va_n (show (24 : Nat) ≠ 25 by decide), va_n (show (24 : Nat) ≠ 9 by decide), va_s]
theorem vS_9 {S : Nat → Nat → Int32} {z : kvS} : vS S z 9 = z.2.2.2.2.2.2.2.2.2.2.2.2.2.2.2.2.2.2.2.1 := by
  unfold vS
  rw [va_n (show (9 : Nat) ≠ 25 by decide), va_s]
theorem vS_25 {S : Nat → Nat → Int32} {z : kvS} : vS S z 25 = z.2.2.2.2.2.2.2.2.2.2.2.2.2.2.2.2.2.2.2.2 := by
  unfold vS
  rw [va_s]
theorem vS_lo {S : Nat → Nat → Int32} {z : kvS} {a : Nat} (h : a = 1 ∨ a = 2 ∨ a = 3 ∨ a = 4 ∨ a = 7 ∨ a = 8 ∨ a = 10) : vS S z a = S a := by
  unfold vS
  rw [va_n (show a ≠ 25 by omega), va_n (show a ≠ 9 by omega), va_n (show a ≠ 24 by omega), va_n (show a ≠ 21 by omega), va_n (show a ≠ 23 by omega), va_n (show a ≠ 20 by omega), va_n (show a ≠ 22 by omega), va_n (show a ≠ 19 by omega), va_n (show a ≠ 18 by omega), va_n (show a ≠ 14 by omega), va_n (show a ≠ 17 by omega), va_n (show a ≠ 13 by omega), va_n (show a ≠ 16 by omega), va_n (show a ≠ 12 by omega), va_n (show a ≠ 15 by omega), va_n (show a ≠ 11 by omega), va_n (show a ≠ 6 by omega), va_n (show a ≠ 5 by omega), va_n (show a ≠ 0 by omega)]
theorem vS_step {T : Int} {S : Nat → Nat → Int32} {z : kvS} {w : Nat → Int64} (h : kRel T (vS S z) z.2.2.2.2.2.2.2.2.2.2.2.2.1 w) (hn : kRn 0 w) (hT : 0 ≤ T ∧ T ≤ 30000) (f : Nat → Int32) (i2 : Int32) : kRel (T + 1) (vS S (i2, (mnR (vS S z) z.2.2.2.2.2.2.2.2.2.2.2.2.1).1, (mnR (vS S z) z.2.2.2.2.2.2.2.2.2.2.2.2.1).2.1, (mnR (vS S z) z.2.2.2.2.2.2.2.2.2.2.2.2.1).2.2.1, (mnR (vS S z) z.2.2.2.2.2.2.2.2.2.2.2.2.1).2.2.2.2.2.2.2.2.2.2.2.2.1, (mnR (vS S z) z.2.2.2.2.2.2.2.2.2.2.2.2.1).2.2.2.2.2.2.2.2.2.2.2.2.2.1, (mnR (vS S z) z.2.2.2.2.2.2.2.2.2.2.2.2.1).2.2.2.2.2.2.2.2.2.2.2.2.2.2.1, (mnR (vS S z) z.2.2.2.2.2.2.2.2.2.2.2.2.1).2.2.2.2.2.2.2.2.2.2.2.2.2.2.2.1, (mnR (vS S z) z.2.2.2.2.2.2.2.2.2.2.2.2.1).2.2.2.2.2.2.2.2.2.2.2.2.2.2.2.2.1, (mnR (vS S z) z.2.2.2.2.2.2.2.2.2.2.2.2.1).2.2.2.2.2.2.2.2.2.2.2.2.2.2.2.2.2.1, (mnR (vS S z) z.2.2.2.2.2.2.2.2.2.2.2.2.1).2.2.2.2.2.2.2.2.2.2.2.2.2.2.2.2.2.2.1, (mnR (vS S z) z.2.2.2.2.2.2.2.2.2.2.2.2.1).2.2.2.2.2.2.2.2.2.2.2.2.2.2.2.2.2.2.2, (mnR (vS S z) z.2.2.2.2.2.2.2.2.2.2.2.2.1).2.2.2.1, (mnR (vS S z) z.2.2.2.2.2.2.2.2.2.2.2.2.1).2.2.2.2.1, (mnR (vS S z) z.2.2.2.2.2.2.2.2.2.2.2.2.1).2.2.2.2.2.1, (mnR (vS S z) z.2.2.2.2.2.2.2.2.2.2.2.2.1).2.2.2.2.2.2.1, (mnR (vS S z) z.2.2.2.2.2.2.2.2.2.2.2.2.1).2.2.2.2.2.2.2.1, (mnR (vS S z) z.2.2.2.2.2.2.2.2.2.2.2.2.1).2.2.2.2.2.2.2.2.1, (mnR (vS S z) z.2.2.2.2.2.2.2.2.2.2.2.2.1).2.2.2.2.2.2.2.2.2.1, (mnR (vS S z) z.2.2.2.2.2.2.2.2.2.2.2.2.1).2.2.2.2.2.2.2.2.2.2.1, (mnR (vS S z) z.2.2.2.2.2.2.2.2.2.2.2.2.1).2.2.2.2.2.2.2.2.2.2.2.1)) (mnR (vS S z) z.2.2.2.2.2.2.2.2.2.2.2.2.1).2.2.2.1 (s_X11_minute f w) ∧ kRn 0 (s_X11_minute f w) := by
  obtain ⟨k1, k2⟩ := h.minute hn hT f
  generalize mnR (vS S z) z.2.2.2.2.2.2.2.2.2.2.2.2.1 = r at k1 ⊢
  obtain ⟨x0, x5, x6, xJ, x19, x22, x20, x23, x21, x24, x9, x25, x11, x15, x12, x16, x13, x17, x14, x18⟩ := r
  refine ⟨k1.cgA (fun a ha => ?_), k2⟩
  exact
    match a, ha with
    | 0, _ => vS_0.trans (mnS_0 (S := vS S z) (r := (x0, x5, x6, xJ, x19, x22, x20, x23, x21, x24, x9, x25, x11, x15, x12, x16, x13, x17, x14, x18))).symm
    | 1, _ => ((vS_lo (by decide)).trans (vS_lo (by decide)).symm).trans (mnS_lo (by decide)).symm
    | 2, _ => ((vS_lo (by decide)).trans (vS_lo (by decide)).symm).trans (mnS_lo (by decide)).symm
    | 3, _ => ((vS_lo (by decide)).trans (vS_lo (by decide)).symm).trans (mnS_lo (by decide)).symm
    | 4, _ => ((vS_lo (by decide)).trans (vS_lo (by decide)).symm).trans (mnS_lo (by decide)).symm
    | 5, _ => vS_5.trans (mnS_5 (S := vS S z) (r := (x0, x5, x6, xJ, x19, x22, x20, x23, x21, x24, x9, x25, x11, x15, x12, x16, x13, x17, x14, x18))).symm
    | 6, _ => vS_6.trans (mnS_6 (S := vS S z) (r := (x0, x5, x6, xJ, x19, x22, x20, x23, x21, x24, x9, x25, x11, x15, x12, x16, x13, x17, x14, x18))).symm
    | 7, _ => ((vS_lo (by decide)).trans (vS_lo (by decide)).symm).trans (mnS_lo (by decide)).symm
    | 8, _ => ((vS_lo (by decide)).trans (vS_lo (by decide)).symm).trans (mnS_lo (by decide)).symm
    | 9, _ => vS_9.trans (mnS_9 (S := vS S z) (r := (x0, x5, x6, xJ, x19, x22, x20, x23, x21, x24, x9, x25, x11, x15, x12, x16, x13, x17, x14, x18))).symm
    | 10, _ => ((vS_lo (by decide)).trans (vS_lo (by decide)).symm).trans (mnS_lo (by decide)).symm
    | 11, _ => vS_11.trans (mnS_11 (S := vS S z) (r := (x0, x5, x6, xJ, x19, x22, x20, x23, x21, x24, x9, x25, x11, x15, x12, x16, x13, x17, x14, x18))).symm
    | 12, _ => vS_12.trans (mnS_12 (S := vS S z) (r := (x0, x5, x6, xJ, x19, x22, x20, x23, x21, x24, x9, x25, x11, x15, x12, x16, x13, x17, x14, x18))).symm
    | 13, _ => vS_13.trans (mnS_13 (S := vS S z) (r := (x0, x5, x6, xJ, x19, x22, x20, x23, x21, x24, x9, x25, x11, x15, x12, x16, x13, x17, x14, x18))).symm
    | 14, _ => vS_14.trans (mnS_14 (S := vS S z) (r := (x0, x5, x6, xJ, x19, x22, x20, x23, x21, x24, x9, x25, x11, x15, x12, x16, x13, x17, x14, x18))).symm
    | 15, _ => vS_15.trans (mnS_15 (S := vS S z) (r := (x0, x5, x6, xJ, x19, x22, x20, x23, x21, x24, x9, x25, x11, x15, x12, x16, x13, x17, x14, x18))).symm
    | 16, _ => vS_16.trans (mnS_16 (S := vS S z) (r := (x0, x5, x6, xJ, x19, x22, x20, x23, x21, x24, x9, x25, x11, x15, x12, x16, x13, x17, x14, x18))).symm
    | 17, _ => vS_17.trans (mnS_17 (S := vS S z) (r := (x0, x5, x6, xJ, x19, x22, x20, x23, x21, x24, x9, x25, x11, x15, x12, x16, x13, x17, x14, x18))).symm
    | 18, _ => vS_18.trans (mnS_18 (S := vS S z) (r := (x0, x5, x6, xJ, x19, x22, x20, x23, x21, x24, x9, x25, x11, x15, x12, x16, x13, x17, x14, x18))).symm
    | 19, _ => vS_19.trans (mnS_19 (S := vS S z) (r := (x0, x5, x6, xJ, x19, x22, x20, x23, x21, x24, x9, x25, x11, x15, x12, x16, x13, x17, x14, x18))).symm
    | 20, _ => vS_20.trans (mnS_20 (S := vS S z) (r := (x0, x5, x6, xJ, x19, x22, x20, x23, x21, x24, x9, x25, x11, x15, x12, x16, x13, x17, x14, x18))).symm
    | 21, _ => vS_21.trans (mnS_21 (S := vS S z) (r := (x0, x5, x6, xJ, x19, x22, x20, x23, x21, x24, x9, x25, x11, x15, x12, x16, x13, x17, x14, x18))).symm
    | 22, _ => vS_22.trans (mnS_22 (S := vS S z) (r := (x0, x5, x6, xJ, x19, x22, x20, x23, x21, x24, x9, x25, x11, x15, x12, x16, x13, x17, x14, x18))).symm
    | 23, _ => vS_23.trans (mnS_23 (S := vS S z) (r := (x0, x5, x6, xJ, x19, x22, x20, x23, x21, x24, x9, x25, x11, x15, x12, x16, x13, x17, x14, x18))).symm
    | 24, _ => vS_24.trans (mnS_24 (S := vS S z) (r := (x0, x5, x6, xJ, x19, x22, x20, x23, x21, x24, x9, x25, x11, x15, x12, x16, x13, x17, x14, x18))).symm
    | 25, _ => vS_25.trans (mnS_25 (S := vS S z) (r := (x0, x5, x6, xJ, x19, x22, x20, x23, x21, x24, x9, x25, x11, x15, x12, x16, x13, x17, x14, x18))).symm
    | n + 26, h => absurd h (by omega)
theorem vS_let (S : Nat → Nat → Int32) (z : kvS) : s_X7_letMinutePass z.2.1 z.2.2.1 (S 4) (S 10) z.2.2.2.1 (S 1) (S 2) z.2.2.2.2.2.2.2.2.2.2.2.2.1 z.2.2.2.2.2.2.2.2.2.2.2.2.2.1 z.2.2.2.2.2.2.2.2.2.2.2.2.2.2.1 z.2.2.2.2.2.2.2.2.2.2.2.2.2.2.2.1 z.2.2.2.2.2.2.2.2.2.2.2.2.2.2.2.2.1 z.2.2.2.2.2.2.2.2.2.2.2.2.2.2.2.2.2.1 z.2.2.2.2.2.2.2.2.2.2.2.2.2.2.2.2.2.2.1 (S 3) z.2.2.2.2.2.2.2.2.2.2.2.2.2.2.2.2.2.2.2.1 z.2.2.2.2.2.2.2.2.2.2.2.2.2.2.2.2.2.2.2.2 z.2.2.2.2.1 z.2.2.2.2.2.1 z.2.2.2.2.2.2.1 z.2.2.2.2.2.2.2.1 z.2.2.2.2.2.2.2.2.1 z.2.2.2.2.2.2.2.2.2.1 z.2.2.2.2.2.2.2.2.2.2.1 z.2.2.2.2.2.2.2.2.2.2.2.1 = mnR (vS S z) z.2.2.2.2.2.2.2.2.2.2.2.2.1 := by
  unfold mnR
  rw [vS_0, vS_5, vS_lo (show (4 : Nat) = 1 ∨ (4 : Nat) = 2 ∨ (4 : Nat) = 3 ∨ (4 : Nat) = 4 ∨ (4 : Nat) = 7 ∨ (4 : Nat) = 8 ∨ (4 : Nat) = 10 by decide), vS_lo (show (10 : Nat) = 1 ∨ (10 : Nat) = 2 ∨ (10 : Nat) = 3 ∨ (10 : Nat) = 4 ∨ (10 : Nat) = 7 ∨ (10 : Nat) = 8 ∨ (10 : Nat) = 10 by decide), vS_6, vS_lo (show (1 : Nat) = 1 ∨ (1 : Nat) = 2 ∨ (1 : Nat) = 3 ∨ (1 : Nat) = 4 ∨ (1 : Nat) = 7 ∨ (1 : Nat) = 8 ∨ (1 : Nat) = 10 by decide), vS_lo (show (2 : Nat) = 1 ∨ (2 : Nat) = 2 ∨ (2 : Nat) = 3 ∨ (2 : Nat) = 4 ∨ (2 : Nat) = 7 ∨ (2 : Nat) = 8 ∨ (2 : Nat) = 10 by decide), vS_19, vS_22, vS_20, vS_23, vS_21, vS_24, vS_lo (show (3 : Nat) = 1 ∨ (3 : Nat) = 2 ∨ (3 : Nat) = 3 ∨ (3 : Nat) = 4 ∨ (3 : Nat) = 7 ∨ (3 : Nat) = 8 ∨ (3 : Nat) = 10 by decide), vS_9, vS_25, vS_11, vS_15, vS_12, vS_16, vS_13, vS_17, vS_14, vS_18]
theorem pS_b (S : Nat → Nat → Int32) (p0 : Int32) (z : kpS) : b_X10_pass_L47 p0 (S 4) (S 10) (S 1) (S 2) (S 3) z = if p0 ≤ z.1 then .inr z else .inl ((z.1 + 1), (mnR (pS S z) z.2.2.2.2.1).1, (mnR (pS S z) z.2.2.2.2.1).2.1, (mnR (pS S z) z.2.2.2.2.1).2.2.1, (mnR (pS S z) z.2.2.2.2.1).2.2.2.1, (mnR (pS S z) z.2.2.2.2.1).2.2.2.2.2.2.2.2.2.2.1, (mnR (pS S z) z.2.2.2.2.1).2.2.2.2.2.2.2.2.2.2.2.2.1, (mnR (pS S z) z.2.2.2.2.1).2.2.2.2.2.2.2.2.2.2.2.2.2.2.1, (mnR (pS S z) z.2.2.2.2.1).2.2.2.2.2.2.2.2.2.2.2.2.2.2.2.2.1, (mnR (pS S z) z.2.2.2.2.1).2.2.2.2.2.2.2.2.2.2.2.2.2.2.2.2.2.2.1, (mnR (pS S z) z.2.2.2.2.1).2.2.2.2.2.2.2.2.2.2.2.2.2.1, (mnR (pS S z) z.2.2.2.2.1).2.2.2.2.2.2.2.2.2.2.2.2.2.2.2.1, (mnR (pS S z) z.2.2.2.2.1).2.2.2.2.2.2.2.2.2.2.2.2.2.2.2.2.2.1, (mnR (pS S z) z.2.2.2.2.1).2.2.2.2.2.2.2.2.2.2.2.2.2.2.2.2.2.2.2, (mnR (pS S z) z.2.2.2.2.1).2.2.2.2.1, (mnR (pS S z) z.2.2.2.2.1).2.2.2.2.2.2.1, (mnR (pS S z) z.2.2.2.2.1).2.2.2.2.2.2.2.2.1, (mnR (pS S z) z.2.2.2.2.1).2.2.2.2.2.1, (mnR (pS S z) z.2.2.2.2.1).2.2.2.2.2.2.2.1, (mnR (pS S z) z.2.2.2.2.1).2.2.2.2.2.2.2.2.2.1, (mnR (pS S z) z.2.2.2.2.1).2.2.2.2.2.2.2.2.2.2.2.1) := by
  unfold b_X10_pass_L47 b_X10_pass_1
  rw [pS_let S z]
theorem pS_loop {T : Int} {S : Nat → Nat → Int32} {p0 : Int32} {N : Nat} {z0 : kpS} {w0 : Nat → Int64} {f : Nat → Int32} {b2 : Int32 × (Nat → Int64) → (Int32 × (Nat → Int64)) ⊕ (Int32 × (Nat → Int64))} (hp : p0 = nI N) (hT : 0 ≤ T ∧ T + (N : Int) ≤ 30000) (h : kRel T (pS S z0) z0.2.2.2.2.1 w0) (hn : kRn 0 w0) (h32 : (w0 32).toInt = T) (hz : z0.1 = 0) (hb : ∀ y, b2 y = if p0 ≤ y.1 then .inr (y.1, y.2) else .inl (y.1 + 1, s_X11_minute f y.2)) : (fun (r : kpS) (r2 : Int32 × (Nat → Int64)) => kRel (T + (N : Int)) (pS S r) r.2.2.2.2.1 r2.2 ∧ kRn 0 r2.2 ∧ (r2.2 32).toInt = T + (N : Int)) (kLoop default (b_X10_pass_L47 p0 (S 4) (S 10) (S 1) (S 2) (S 3)) ((Int32.toInt p0 - Int32.toInt 0).toNat + 1) z0) (kLoop default b2 ((Int32.toInt p0 - Int32.toInt 0).toNat + 1) (0, w0)) := by
  have hNb : N < 2 ^ 31 := by omega
  have ef : (Int32.toInt p0 - Int32.toInt 0).toNat + 1 = N + 1 := by
    rw [hp, nI_toInt hNb, show Int32.toInt 0 = 0 by decide]
    omega
  rw [ef]
  refine kLock N (fun i z y => z.1 = nI i ∧ y.1 = nI i ∧ kRel (T + (i : Int)) (pS S z) z.2.2.2.2.1 y.2 ∧ kRn 0 y.2 ∧ (y.2 32).toInt = T + (i : Int)) (fun (r : kpS) (r2 : Int32 × (Nat → Int64)) => kRel (T + (N : Int)) (pS S r) r.2.2.2.2.1 r2.2 ∧ kRn 0 r2.2 ∧ (r2.2 32).toInt = T + (N : Int)) (fun i z y hi hq => ?_) (N + 1) (N + 1) 0 z0 (0, w0) (Nat.zero_le _) (by omega) (by omega) ⟨hz, rfl, by rw [show T + ((0 : Nat) : Int) = T by omega]; exact h, hn, by rw [show T + ((0 : Nat) : Int) = T by omega]; exact h32⟩
  obtain ⟨q1, q2, q3, q4, q5⟩ := hq
  have eb := pS_b S p0 z
  by_cases c : i = N
  · subst c
    refine Or.inl ⟨z, (y.1, y.2), ?_, ?_, q3, q4, q5⟩
    · rw [eb, q1, hp, if_pos (nI_le (Nat.le_refl _) hNb)]
    · rw [hb, q2, hp, if_pos (nI_le (Nat.le_refl _) hNb)]
  · have hlt : i < N := by omega
    have cn : ¬ nI N ≤ nI i := nI_ge hlt hNb
    obtain ⟨k1, k2⟩ := pS_step q3 q4 ⟨by omega, by omega⟩ f (z.1 + 1)
    generalize mnR (pS S z) z.2.2.2.2.1 = r at eb k1
    obtain ⟨x0, x5, x6, xJ, x19, x22, x20, x23, x21, x24, x9, x25, x11, x15, x12, x16, x13, x17, x14, x18⟩ := r
    have k3 := q3.minute32 q4 ⟨by omega, by omega⟩ f
    refine Or.inr (Or.inr ⟨hlt, (z.1 + 1, x0, x5, x6, xJ, x9, x11, x12, x13, x14, x15, x16, x17, x18, x19, x20, x21, x22, x23, x24, x25), (y.1 + 1, s_X11_minute f y.2), ?_, ?_, ?_, ?_, ?_, k2, ?_⟩)
    · rw [eb, hp, q1, if_neg cn]
    · rw [hb, q2, hp, if_neg cn]
    · show z.1 + 1 = _
      rw [q1, nI_succ]
    · show y.1 + 1 = _
      rw [q2, nI_succ]
    · rw [show T + ((i + 1 : Nat) : Int) = T + (i : Int) + 1 by omega]
      exact k1
    · show (s_X11_minute f y.2 32).toInt = _
      rw [k3, q5]
      omega
theorem vS_b (S : Nat → Nat → Int32) (p0 : Int32) (z : kvS) : b_X10_valueIn_L29 p0 (S 4) (S 10) (S 1) (S 2) (S 3) z = if p0 ≤ z.1 then .inr z else .inl ((z.1 + 1), (mnR (vS S z) z.2.2.2.2.2.2.2.2.2.2.2.2.1).1, (mnR (vS S z) z.2.2.2.2.2.2.2.2.2.2.2.2.1).2.1, (mnR (vS S z) z.2.2.2.2.2.2.2.2.2.2.2.2.1).2.2.1, (mnR (vS S z) z.2.2.2.2.2.2.2.2.2.2.2.2.1).2.2.2.2.2.2.2.2.2.2.2.2.1, (mnR (vS S z) z.2.2.2.2.2.2.2.2.2.2.2.2.1).2.2.2.2.2.2.2.2.2.2.2.2.2.1, (mnR (vS S z) z.2.2.2.2.2.2.2.2.2.2.2.2.1).2.2.2.2.2.2.2.2.2.2.2.2.2.2.1, (mnR (vS S z) z.2.2.2.2.2.2.2.2.2.2.2.2.1).2.2.2.2.2.2.2.2.2.2.2.2.2.2.2.1, (mnR (vS S z) z.2.2.2.2.2.2.2.2.2.2.2.2.1).2.2.2.2.2.2.2.2.2.2.2.2.2.2.2.2.1, (mnR (vS S z) z.2.2.2.2.2.2.2.2.2.2.2.2.1).2.2.2.2.2.2.2.2.2.2.2.2.2.2.2.2.2.1, (mnR (vS S z) z.2.2.2.2.2.2.2.2.2.2.2.2.1).2.2.2.2.2.2.2.2.2.2.2.2.2.2.2.2.2.2.1, (mnR (vS S z) z.2.2.2.2.2.2.2.2.2.2.2.2.1).2.2.2.2.2.2.2.2.2.2.2.2.2.2.2.2.2.2.2, (mnR (vS S z) z.2.2.2.2.2.2.2.2.2.2.2.2.1).2.2.2.1, (mnR (vS S z) z.2.2.2.2.2.2.2.2.2.2.2.2.1).2.2.2.2.1, (mnR (vS S z) z.2.2.2.2.2.2.2.2.2.2.2.2.1).2.2.2.2.2.1, (mnR (vS S z) z.2.2.2.2.2.2.2.2.2.2.2.2.1).2.2.2.2.2.2.1, (mnR (vS S z) z.2.2.2.2.2.2.2.2.2.2.2.2.1).2.2.2.2.2.2.2.1, (mnR (vS S z) z.2.2.2.2.2.2.2.2.2.2.2.2.1).2.2.2.2.2.2.2.2.1, (mnR (vS S z) z.2.2.2.2.2.2.2.2.2.2.2.2.1).2.2.2.2.2.2.2.2.2.1, (mnR (vS S z) z.2.2.2.2.2.2.2.2.2.2.2.2.1).2.2.2.2.2.2.2.2.2.2.1, (mnR (vS S z) z.2.2.2.2.2.2.2.2.2.2.2.2.1).2.2.2.2.2.2.2.2.2.2.2.1) := by
  unfold b_X10_valueIn_L29 b_X10_valueIn_1
  rw [vS_let S z]
theorem vS_loop {T : Int} {S : Nat → Nat → Int32} {p0 : Int32} {N : Nat} {z0 : kvS} {w0 : Nat → Int64} {f : Nat → Int32} {b2 : Int32 × (Nat → Int64) → (Int32 × (Nat → Int64)) ⊕ (Int32 × (Nat → Int64))} (hp : p0 = nI N) (hT : 0 ≤ T ∧ T + (N : Int) ≤ 30000) (h : kRel T (vS S z0) z0.2.2.2.2.2.2.2.2.2.2.2.2.1 w0) (hn : kRn 0 w0) (h32 : (w0 32).toInt = T) (hz : z0.1 = 0) (hb : ∀ y, b2 y = if p0 ≤ y.1 then .inr (y.1, y.2) else .inl (y.1 + 1, s_X11_minute f y.2)) : (fun (r : kvS) (r2 : Int32 × (Nat → Int64)) => kRel (T + (N : Int)) (vS S r) r.2.2.2.2.2.2.2.2.2.2.2.2.1 r2.2 ∧ kRn 0 r2.2 ∧ (r2.2 32).toInt = T + (N : Int)) (kLoop default (b_X10_valueIn_L29 p0 (S 4) (S 10) (S 1) (S 2) (S 3)) ((Int32.toInt p0 - Int32.toInt 0).toNat + 1) z0) (kLoop default b2 ((Int32.toInt p0 - Int32.toInt 0).toNat + 1) (0, w0)) := by
  have hNb : N < 2 ^ 31 := by omega
  have ef : (Int32.toInt p0 - Int32.toInt 0).toNat + 1 = N + 1 := by
    rw [hp, nI_toInt hNb, show Int32.toInt 0 = 0 by decide]
    omega
  rw [ef]
  refine kLock N (fun i z y => z.1 = nI i ∧ y.1 = nI i ∧ kRel (T + (i : Int)) (vS S z) z.2.2.2.2.2.2.2.2.2.2.2.2.1 y.2 ∧ kRn 0 y.2 ∧ (y.2 32).toInt = T + (i : Int)) (fun (r : kvS) (r2 : Int32 × (Nat → Int64)) => kRel (T + (N : Int)) (vS S r) r.2.2.2.2.2.2.2.2.2.2.2.2.1 r2.2 ∧ kRn 0 r2.2 ∧ (r2.2 32).toInt = T + (N : Int)) (fun i z y hi hq => ?_) (N + 1) (N + 1) 0 z0 (0, w0) (Nat.zero_le _) (by omega) (by omega) ⟨hz, rfl, by rw [show T + ((0 : Nat) : Int) = T by omega]; exact h, hn, by rw [show T + ((0 : Nat) : Int) = T by omega]; exact h32⟩
  obtain ⟨q1, q2, q3, q4, q5⟩ := hq
  have eb := vS_b S p0 z
  by_cases c : i = N
  · subst c
    refine Or.inl ⟨z, (y.1, y.2), ?_, ?_, q3, q4, q5⟩
    · rw [eb, q1, hp, if_pos (nI_le (Nat.le_refl _) hNb)]
    · rw [hb, q2, hp, if_pos (nI_le (Nat.le_refl _) hNb)]
  · have hlt : i < N := by omega
    have cn : ¬ nI N ≤ nI i := nI_ge hlt hNb
    obtain ⟨k1, k2⟩ := vS_step q3 q4 ⟨by omega, by omega⟩ f (z.1 + 1)
    generalize mnR (vS S z) z.2.2.2.2.2.2.2.2.2.2.2.2.1 = r at eb k1
    obtain ⟨x0, x5, x6, xJ, x19, x22, x20, x23, x21, x24, x9, x25, x11, x15, x12, x16, x13, x17, x14, x18⟩ := r
    have k3 := q3.minute32 q4 ⟨by omega, by omega⟩ f
    refine Or.inr (Or.inr ⟨hlt, (z.1 + 1, x0, x5, x6, x11, x15, x12, x16, x13, x17, x14, x18, xJ, x19, x22, x20, x23, x21, x24, x9, x25), (y.1 + 1, s_X11_minute f y.2), ?_, ?_, ?_, ?_, ?_, k2, ?_⟩)
    · rw [eb, hp, q1, if_neg cn]
    · rw [hb, q2, hp, if_neg cn]
    · show z.1 + 1 = _
      rw [q1, nI_succ]
    · show y.1 + 1 = _
      rw [q2, nI_succ]
    · rw [show T + ((i + 1 : Nat) : Int) = T + (i : Int) + 1 by omega]
      exact k1
    · show (s_X11_minute f y.2 32).toInt = _
      rw [k3, q5]
      omega
theorem pS_self {T : Int} {X : kXS} {w : Nat → Int64} (i2 : Int32) (h : kRel T X.1 X.2.1 w) : kRel T (pS X.1 (i2, X.1 0, X.1 5, X.1 6, X.2.1, X.1 9, X.1 11, X.1 12, X.1 13, X.1 14, X.1 15, X.1 16, X.1 17, X.1 18, X.1 19, X.1 20, X.1 21, X.1 22, X.1 23, X.1 24, X.1 25)) X.2.1 w := by
  refine h.cgA (fun a ha => ?_)
  exact
    match a, ha with
    | 0, _ => pS_0
    | 1, _ => pS_lo (by decide)
    | 2, _ => pS_lo (by decide)
    | 3, _ => pS_lo (by decide)
    | 4, _ => pS_lo (by decide)
    | 5, _ => pS_5
    | 6, _ => pS_6
    | 7, _ => pS_lo (by decide)
    | 8, _ => pS_lo (by decide)
    | 9, _ => pS_9
    | 10, _ => pS_lo (by decide)
    | 11, _ => pS_11
    | 12, _ => pS_12
    | 13, _ => pS_13
    | 14, _ => pS_14
    | 15, _ => pS_15
    | 16, _ => pS_16
    | 17, _ => pS_17
    | 18, _ => pS_18
    | 19, _ => pS_19
    | 20, _ => pS_20
    | 21, _ => pS_21
    | 22, _ => pS_22
    | 23, _ => pS_23
    | 24, _ => pS_24
    | 25, _ => pS_25
    | n + 26, h => absurd h (by omega)
theorem vS_self {T : Int} {X : kXS} {w : Nat → Int64} (i2 : Int32) (h : kRel T X.1 X.2.1 w) : kRel T (vS X.1 (i2, X.1 0, X.1 5, X.1 6, X.1 11, X.1 15, X.1 12, X.1 16, X.1 13, X.1 17, X.1 14, X.1 18, X.2.1, X.1 19, X.1 22, X.1 20, X.1 23, X.1 21, X.1 24, X.1 9, X.1 25)) X.2.1 w := by
  refine h.cgA (fun a ha => ?_)
  exact
    match a, ha with
    | 0, _ => vS_0
    | 1, _ => vS_lo (by decide)
    | 2, _ => vS_lo (by decide)
    | 3, _ => vS_lo (by decide)
    | 4, _ => vS_lo (by decide)
    | 5, _ => vS_5
    | 6, _ => vS_6
    | 7, _ => vS_lo (by decide)
    | 8, _ => vS_lo (by decide)
    | 9, _ => vS_9
    | 10, _ => vS_lo (by decide)
    | 11, _ => vS_11
    | 12, _ => vS_12
    | 13, _ => vS_13
    | 14, _ => vS_14
    | 15, _ => vS_15
    | 16, _ => vS_16
    | 17, _ => vS_17
    | 18, _ => vS_18
    | 19, _ => vS_19
    | 20, _ => vS_20
    | 21, _ => vS_21
    | 22, _ => vS_22
    | 23, _ => vS_23
    | 24, _ => vS_24
    | 25, _ => vS_25
    | n + 26, h => absurd h (by omega)
theorem ok_pass {l : Launch} (hl0 : l.stackTraces = false) (D : va_G) (cI cJ cO : ClassId) (z : zT) {X : kXS} {Y : kTS} {M : kMS} (b o : Nat) (u : Nat → Nat) (fo : Nat → Int64) (p0 : Int32) (h : rR X Y M) : lStep l D cI cJ cO z yL_pass cL_pass 4 [(0, 9, 12, 15), (0, 9, 15, 24)] [.ref b, .int p0, .ref o] b o u X Y fo (a_pass M p0) ((q_pass M p0).1 7) (fun X2 Y2 => rR X2 Y2 (q_pass M p0)) := by
  obtain ⟨T, hT1, hT2, hr, hn⟩ := id h.1
  have e1 : s_X11_in p0.toInt64 1 500 = s_X10_isWithin p0 1 500 := inW (kE.lit (a := 1) (x := 1) (n := 1) (by decide) (by decide)) (kE.lit (a := 500) (x := 500) (n := 500) (by decide) (by decide))
  have e32 : kE (M.2.1 32) (X.1 0 0) 0 T := hr.e 32 (by decide)
  by_cases v : s_X10_isWithin p0 1 500 = 0
  · refine lSt_t (by decide) (by decide) (w_pass_0 l hl0 D cI cJ cO z b o u X Y fo p0 v) rfl (by decide) ?_ h
    unfold q_pass s_X11_pass s_X11_pass_2 s_X11_refuse
    rw [if_pos (e1.trans v)]
  · have c1 : ¬ s_X11_in p0.toInt64 1 500 = 0 := by rw [e1]; exact v
    have b1 := wi_yes v
    have b1a : 1 ≤ p0.toInt := b1.1
    have b1b : p0.toInt ≤ 500 := b1.2
    have hT0 : 0 ≤ T := Int.le_trans e32.2.1 e32.2.2
    have kp : kE p0.toInt64 p0 1 500 := kE.up ⟨b1a, b1b⟩
    have es := e32.add kp (by decide) (by omega)
    have ez : (M.2.1 32 + p0.toInt64 ≤ 20000) = (¬ 20000 < X.1 0 0 + p0) := by
      have e2 : kE 20000 20000 20000 20000 := kE.lit (by decide) (by decide)
      rw [kE.le es e2]
      refine propext ⟨fun y y2 => ?_, fun y => Int32.le_iff_toInt_le.mpr ?_⟩
      · have := Int32.le_iff_toInt_le.mp y
        have := Int32.lt_iff_toInt_lt.mp y2
        omega
      · have a : ¬ (20000 : Int32).toInt < (X.1 0 0 + p0).toInt := fun y2 => y (Int32.lt_iff_toInt_lt.mpr y2)
        omega
    by_cases v2 : 20000 < X.1 0 0 + p0
    · refine lSt_t (by decide) (by decide) (w_pass_1 l hl0 D cI cJ cO z b o u X Y fo p0 v v2) rfl (by decide) ?_ h
      unfold q_pass s_X11_pass s_X11_pass_5 s_X11_refuse
      rw [if_neg c1, if_neg (pTx ez v2)]
    · have c2 : M.2.1 32 + p0.toInt64 ≤ 20000 := pT ez v2
      have hsum : T + p0.toInt ≤ 20000 := by
        have a := Int64.le_iff_toInt_le.mp c2
        rw [es.1, Int32.toInt_add, kn_bmod (by have := e32.2.1; omega) (by have := e32.2.2; omega), ← e32.1, hT2] at a
        exact a
      obtain ⟨n1, n2⟩ := nIofI (p := p0) (N := 500) (by omega) b1b
      have L := pS_loop (T := T) (S := X.1) (p0 := p0) (N := p0.toInt.toNat) (z0 := (0, X.1 0, X.1 5, X.1 6, X.2.1, X.1 9, X.1 11, X.1 12, X.1 13, X.1 14, X.1 15, X.1 16, X.1 17, X.1 18, X.1 19, X.1 20, X.1 21, X.1 22, X.1 23, X.1 24, X.1 25)) (w0 := M.2.1) (f := (s_X11_save (upd M.1 7 0) M.2.2.1 M.2.1).1) (b2 := b_X11_pass_L52 p0 (s_X11_save (upd M.1 7 0) M.2.2.1 M.2.1)) n1 ⟨hT0, by omega⟩ (pS_self 0 hr) hn hT2 rfl (fun y => rfl)
      have hq : s_X11_pass M.1 M.2.1 M.2.2.1 p0 = (((kLoop default (b_X11_pass_L52 p0 (s_X11_save (upd M.1 7 0) M.2.2.1 M.2.1)) ((Int32.toInt p0 - Int32.toInt 0).toNat + 1) (0, M.2.1)).2 12).toInt32, (s_X11_save (upd M.1 7 0) M.2.2.1 M.2.1).1, (kLoop default (b_X11_pass_L52 p0 (s_X11_save (upd M.1 7 0) M.2.2.1 M.2.1)) ((Int32.toInt p0 - Int32.toInt 0).toNat + 1) (0, M.2.1)).2, (s_X11_save (upd M.1 7 0) M.2.2.1 M.2.1).2) := by
        unfold s_X11_pass s_X11_pass_4 s_X11_pass_3
        rw [if_neg c1, if_pos c2]
      have hX : (n_pass_2 X p0).1 = pS X.1 (kLoop default (b_X10_pass_L47 p0 (X.1 4) (X.1 10) (X.1 1) (X.1 2) (X.1 3)) ((Int32.toInt p0 - Int32.toInt 0).toNat + 1) (0, X.1 0, X.1 5, X.1 6, X.2.1, X.1 9, X.1 11, X.1 12, X.1 13, X.1 14, X.1 15, X.1 16, X.1 17, X.1 18, X.1 19, X.1 20, X.1 21, X.1 22, X.1 23, X.1 24, X.1 25)) := by
        unfold n_pass_2 s_X10_pass s_X10_pass_2 pS
        rfl
      have hJ : (n_pass_2 X p0).2.1 = (kLoop default (b_X10_pass_L47 p0 (X.1 4) (X.1 10) (X.1 1) (X.1 2) (X.1 3)) ((Int32.toInt p0 - Int32.toInt 0).toNat + 1) (0, X.1 0, X.1 5, X.1 6, X.2.1, X.1 9, X.1 11, X.1 12, X.1 13, X.1 14, X.1 15, X.1 16, X.1 17, X.1 18, X.1 19, X.1 20, X.1 21, X.1 22, X.1 23, X.1 24, X.1 25)).2.2.2.2.1 := by
        unfold n_pass_2 s_X10_pass s_X10_pass_2
        rfl
      have hR : r_pass_2 X p0 = (kLoop default (b_X10_pass_L47 p0 (X.1 4) (X.1 10) (X.1 1) (X.1 2) (X.1 3)) ((Int32.toInt p0 - Int32.toInt 0).toNat + 1) (0, X.1 0, X.1 5, X.1 6, X.2.1, X.1 9, X.1 11, X.1 12, X.1 13, X.1 14, X.1 15, X.1 16, X.1 17, X.1 18, X.1 19, X.1 20, X.1 21, X.1 22, X.1 23, X.1 24, X.1 25)).2.2.2.1 0 := by
        unfold r_pass_2 s_X10_pass s_X10_pass_2
        rfl
      generalize (kLoop default (b_X10_pass_L47 p0 (X.1 4) (X.1 10) (X.1 1) (X.1 2) (X.1 3)) ((Int32.toInt p0 - Int32.toInt 0).toNat + 1) (0, X.1 0, X.1 5, X.1 6, X.2.1, X.1 9, X.1 11, X.1 12, X.1 13, X.1 14, X.1 15, X.1 16, X.1 17, X.1 18, X.1 19, X.1 20, X.1 21, X.1 22, X.1 23, X.1 24, X.1 25)) = r at L hX hJ hR
      generalize (kLoop default (b_X11_pass_L52 p0 (s_X11_save (upd M.1 7 0) M.2.2.1 M.2.1)) ((Int32.toInt p0 - Int32.toInt 0).toNat + 1) (0, M.2.1)) = r2 at L hq
      have L : kRel (T + (p0.toInt.toNat : Int)) (pS X.1 r) r.2.2.2.2.1 r2.2 ∧ kRn 0 r2.2 ∧ (r2.2 32).toInt = T + (p0.toInt.toNat : Int) := L
      refine lSt_s h (F := 7) (L := 158) (by decide) (by decide) (fun ki a1 a2 a3 a4 => w_pass_2 l hl0 D cI cJ cO z b o u X Y fo ki p0 a1 a2 a3 a4 v v2) (by unfold q_pass; rw [hq]) rfl rfl rfl ?_ ?_
      · rw [hX, hJ]
        exact ⟨T + (p0.toInt.toNat : Int), by omega, L.2.2, L.1, L.2.1⟩
      · refine congrArg Int32.toInt64 ?_
        have a2 : a_pass M p0 = (r2.2 12).toInt32 := by unfold a_pass; rw [hq]
        have q : kE (r2.2 12) (pS X.1 r 6 0) (-700) 2000 := L.1.e 12 (by decide)
        rw [hR, a2, q.back, pS_6]
/-- behind a trial the reference is as it was -/
theorem rR.trial {X X2 : kXS} {Y : kTS} {M : kMS} (h : rR X Y M) {w2 t2 : Nat → Int64} (hw : ∀ k : Nat, k < 294 → w2 k = M.2.1 k) (h1 : X2.1 = X.1) (h2 : X2.2.1 = X.2.1) (h3 : X2.2.2.2.2.1 = X.2.2.2.2.1) (h4 : X2.2.2.2.2.2.1 = X.2.2.2.2.2.1) (h5 : X2.2.2.2.2.2.2.1 = X.2.2.2.2.2.2.1) : rR X2 Y (upd M.1 7 0, w2, M.2.2.1, t2, M.2.2.2.2.1, M.2.2.2.2.2) := by
  unfold rR
  rw [h1, h2, h3, h4, h5]
  exact ⟨h.1.cg hw, h.2.1, h.2.2⟩
section LST2
variable {l : Launch} {D : va_G} {cI cJ cO : ClassId} {z : zT} {y : MethodName} {code : ByteArray} {nL : Nat} {hh : List (Nat × Nat × Nat × Nat)} {av : List Value} {b o : Nat} {u : Nat → Nat} {X X2 : kXS} {Y : kTS} {M q : kMS} {fo : Nat → Int64} {rM : Int32} {F L : Nat} {v : Int64} {w2 t2 : Nat → Int64}
theorem lSt_q (hF : F ≤ 10) (hL : L ≤ 300) (hw : kWi l y code nL hh F L 26 331 D (kT cI cJ cO) z av (xwW cI cJ cO b o u X Y fo ++ kTl cI Y) 0 (fun _ : Unit => xwW cI cJ cO b o u X2 Y (vp_updL fo 0 v) ++ kTl cI Y)) (hq : q = (upd M.1 7 0, w2, M.2.2.1, t2, M.2.2.2.2.1, M.2.2.2.2.2)) (he : ∀ k : Nat, k < 294 → w2 k = M.2.1 k) (h1 : X2.1 = X.1) (h2 : X2.2.1 = X.2.1) (h3 : X2.2.2.2.2.1 = X.2.2.2.2.1) (h4 : X2.2.2.2.2.2.1 = X.2.2.2.2.2.1) (h5 : X2.2.2.2.2.2.2.1 = X.2.2.2.2.2.2.1) (hv : v = rM.toInt64) (h : rR X Y M) : lStep l D cI cJ cO z y code nL hh av b o u X Y fo rM (q.1 7) (fun X3 Y3 => rR X3 Y3 q) := by
  subst hq
  exact lSt_u hF hL hw (show upd M.1 7 0 7 = 0 from ups) hv (h.trial he h1 h2 h3 h4 h5)
end LST2
theorem te_eq (f f2 : Nat → Int32) (w t w9 : Nat → Int64) : ∀ k : Nat, k < 294 → s_X11_endTrial f (s_X11_beginTrial f2 w t) w9 k = w k := fun k hk => by rw [et_at, if_pos hk, bt_at, if_pos hk]
theorem ok_valueIn {l : Launch} (hl0 : l.stackTraces = false) (D : va_G) (cI cJ cO : ClassId) (z : zT) {X : kXS} {Y : kTS} {M : kMS} (b o : Nat) (u : Nat → Nat) (fo : Nat → Int64) (p0 : Int32) (p1 : Int32) (h : rR X Y M) : lStep l D cI cJ cO z yL_valueIn cL_valueIn 5 [(0, 10, 13, 13), (0, 10, 17, 15)] [.ref b, .int p0, .int p1, .ref o] b o u X Y fo (a_valueIn M p0 p1) ((q_valueIn M p0 p1).1 7) (fun X2 Y2 => rR X2 Y2 (q_valueIn M p0 p1)) := by
  obtain ⟨T, hT1, hT2, hr, hn⟩ := id h.1
  have e0 : s_X11_in p0.toInt64 0 1 = s_X10_isWithin p0 0 1 := inW (kE.lit (a := 0) (x := 0) (n := 0) (by decide) (by decide)) (kE.lit (a := 1) (x := 1) (n := 1) (by decide) (by decide))
  have e02 : (s_X10_isWithin p0 0 1 = 0) = (p0 < 0 ∨ 2 ≤ p0) := wi_eq (by decide) (by decide)
  have e1 : s_X11_in p1.toInt64 0 300 = s_X10_isWithin p1 0 300 := inW (kE.lit (a := 0) (x := 0) (n := 0) (by decide) (by decide)) (kE.lit (a := 300) (x := 300) (n := 300) (by decide) (by decide))
  have e32 : kE (M.2.1 32) (X.1 0 0) 0 T := hr.e 32 (by decide)
  by_cases v : p0 < 0 ∨ 2 ≤ p0
  · refine lSt_t (by decide) (by decide) (w_valueIn_0 l hl0 D cI cJ cO z b o u X Y fo p0 p1 v) rfl (by decide) ?_ h
    unfold q_valueIn s_X11_valueIn s_X11_valueIn_2 s_X11_refuse
    rw [if_pos (by rw [e0, e02]; exact v)]
  · have c0 : ¬ s_X11_in p0.toInt64 0 1 = 0 := by rw [e0, e02]; exact v
    by_cases v2 : s_X10_isWithin p1 0 300 = 0
    · refine lSt_t (by decide) (by decide) (w_valueIn_2 l hl0 D cI cJ cO z b o u X Y fo p0 p1 v v2) rfl (by decide) ?_ h
      unfold q_valueIn s_X11_valueIn s_X11_valueIn_3 s_X11_refuse
      rw [if_neg c0, if_pos (e1.trans v2)]
    · have c1 : ¬ s_X11_in p1.toInt64 0 300 = 0 := by rw [e1]; exact v2
      have b0 := wi_yes (p := p0) (x := 0) (y := 1) (by rw [e02]; exact v)
      have b0a : 0 ≤ p0.toInt := b0.1
      have b0b : p0.toInt ≤ 1 := b0.2
      have b1 := wi_yes v2
      have b1a : 0 ≤ p1.toInt := b1.1
      have b1b : p1.toInt ≤ 300 := b1.2
      have hT0 : 0 ≤ T := Int.le_trans e32.2.1 e32.2.2
      obtain ⟨n1, n2⟩ := nIofI (p := p1) (N := 300) b1a b1b
      have L := vS_loop (T := T) (S := X.1) (p0 := p1) (N := p1.toInt.toNat) (z0 := (0, X.1 0, X.1 5, X.1 6, X.1 11, X.1 15, X.1 12, X.1 16, X.1 13, X.1 17, X.1 14, X.1 18, X.2.1, X.1 19, X.1 22, X.1 20, X.1 23, X.1 21, X.1 24, X.1 9, X.1 25)) (w0 := M.2.1) (f := upd M.1 7 0) (b2 := b_X11_valueIn_L45 p1 M.1) n1 ⟨hT0, by omega⟩ (vS_self 0 hr) hn hT2 rfl (fun y => rfl)
      have te := te_eq (upd M.1 7 0) (upd M.1 7 0) M.2.1 M.2.2.2.1 (kLoop default (b_X11_valueIn_L45 p1 M.1) ((Int32.toInt p1 - Int32.toInt 0).toNat + 1) (0, M.2.1)).2
      have hq : s_X11_valueIn M.1 M.2.1 M.2.2.2.1 p0 p1 = (((kLoop default (b_X11_valueIn_L45 p1 M.1) ((Int32.toInt p1 - Int32.toInt 0).toNat + 1) (0, M.2.1)).2 (Int32.toNatClampNeg (12 + p0))).toInt32, upd M.1 7 0, s_X11_endTrial (upd M.1 7 0) (s_X11_beginTrial (upd M.1 7 0) M.2.1 M.2.2.2.1) (kLoop default (b_X11_valueIn_L45 p1 M.1) ((Int32.toInt p1 - Int32.toInt 0).toNat + 1) (0, M.2.1)).2, s_X11_beginTrial (upd M.1 7 0) M.2.1 M.2.2.2.1) := by
        unfold s_X11_valueIn s_X11_valueIn_6 s_X11_valueIn_5 s_X11_valueIn_4
        rw [if_neg c0, if_neg c1]
      have hR : r_valueIn_1 X p0 p1 = if p0 = 0 then (kLoop default (b_X10_valueIn_L29 p1 (X.1 4) (X.1 10) (X.1 1) (X.1 2) (X.1 3)) ((Int32.toInt p1 - Int32.toInt 0).toNat + 1) (0, X.1 0, X.1 5, X.1 6, X.1 11, X.1 15, X.1 12, X.1 16, X.1 13, X.1 17, X.1 14, X.1 18, X.2.1, X.1 19, X.1 22, X.1 20, X.1 23, X.1 21, X.1 24, X.1 9, X.1 25)).2.2.2.1 0 else (kLoop default (b_X10_valueIn_L29 p1 (X.1 4) (X.1 10) (X.1 1) (X.1 2) (X.1 3)) ((Int32.toInt p1 - Int32.toInt 0).toNat + 1) (0, X.1 0, X.1 5, X.1 6, X.1 11, X.1 15, X.1 12, X.1 16, X.1 13, X.1 17, X.1 14, X.1 18, X.2.1, X.1 19, X.1 22, X.1 20, X.1 23, X.1 21, X.1 24, X.1 9, X.1 25)).2.2.2.1 1 := by
        unfold r_valueIn_1 s_X10_valueIn s_X10_valueIn_3 s_X10_valueIn_2
        rfl
      refine lSt_q (F := 7) (L := 159) (by decide) (by decide) (w_valueIn_1 l hl0 D cI cJ cO z b o u X Y fo p0 p1 h.1.sb v v2) (by unfold q_valueIn; rw [hq]) te rfl rfl rfl rfl rfl ?_ h
      refine congrArg Int32.toInt64 ?_
      have a2 : a_valueIn M p0 p1 = ((kLoop default (b_X11_valueIn_L45 p1 M.1) ((Int32.toInt p1 - Int32.toInt 0).toNat + 1) (0, M.2.1)).2 (Int32.toNatClampNeg (12 + p0))).toInt32 := by unfold a_valueIn; rw [hq]
      generalize (kLoop default (b_X10_valueIn_L29 p1 (X.1 4) (X.1 10) (X.1 1) (X.1 2) (X.1 3)) ((Int32.toInt p1 - Int32.toInt 0).toNat + 1) (0, X.1 0, X.1 5, X.1 6, X.1 11, X.1 15, X.1 12, X.1 16, X.1 13, X.1 17, X.1 14, X.1 18, X.2.1, X.1 19, X.1 22, X.1 20, X.1 23, X.1 21, X.1 24, X.1 9, X.1 25)) = r at L hR
      generalize (kLoop default (b_X11_valueIn_L45 p1 M.1) ((Int32.toInt p1 - Int32.toInt 0).toNat + 1) (0, M.2.1)) = r2 at L a2
      have L : kRel (T + (p1.toInt.toNat : Int)) (vS X.1 r) r.2.2.2.2.2.2.2.2.2.2.2.2.1 r2.2 ∧ kRn 0 r2.2 ∧ (r2.2 32).toInt = T + (p1.toInt.toNat : Int) := L
      rw [hR, a2]
      have q0 : kE (r2.2 12) (vS X.1 r 6 0) (-700) 2000 := L.1.e 12 (by decide)
      have q1 : kE (r2.2 13) (vS X.1 r 6 1) 0 1000 := L.1.e 13 (by decide)
      rw [vS_6] at q0 q1
      by_cases c : p0 = 0
      · subst c
        rw [if_pos rfl]
        exact q0.back.symm
      · have e : p0 = 1 := Int32.toInt_inj.mp (by have : ¬ p0.toInt = 0 := fun y => c (Int32.toInt_inj.mp y); show p0.toInt = 1; omega)
        subst e
        rw [if_neg (by decide)]
        exact q1.back.symm
