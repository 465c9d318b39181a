/-! the minutes of pass and of valueIn -/
theorem kOne {σ τ : Type} {b : σ → σ ⊕ τ} {d : τ} (N : Nat) (Q : Nat → σ → Prop) (O : τ → Prop) (hs : ∀ (i : Nat) (z : σ), i ≤ N → Q i z → (∃ r, b z = .inr r ∧ O r) ∨ (i < N ∧ ∃ z2, b z = .inl z2 ∧ Q (i + 1) z2)) : ∀ (n i : Nat) (z : σ), i ≤ N → N < n + i → Q i z → O (kLoop d b n z) := by
  intro n
  induction n with
  | zero => intro i z h1 h2 hq; omega
  | succ n ih =>
    intro i z h1 h2 hq
    rcases hs i z h1 hq with ⟨r, e1, ho⟩ | ⟨hl, z2, e1, hq2⟩
    · rw [kLoop_out e1]
      exact ho
    · rw [kLoop_in e1]
      exact ih (i + 1) z2 (by omega) (by omega) hq2
abbrev kpS : Type := Int32 × (Nat → Int32) × (Nat → Int32) × (Nat → Int32) × Int64 × (Nat → Int32) × (Nat → Int32) × (Nat → Int32) × (Nat → Int32) × (Nat → Int32) × (Nat → Int32) × (Nat → Int32) × (Nat → Int32) × (Nat → Int32) × (Nat → Int32) × (Nat → Int32) × (Nat → Int32) × (Nat → Int32) × (Nat → Int32) × (Nat → Int32) × (Nat → Int32)
def pS (S : Nat → Nat → Int32) (z : kpS) : Nat → Nat → Int32 := (va_up (va_up (va_up (va_up (va_up (va_up (va_up (va_up (va_up (va_up (va_up (va_up (va_up (va_up (va_up (va_up (va_up (va_up (va_up S 0 z.2.1) 5 z.2.2.1) 6 z.2.2.2.1) 9 z.2.2.2.2.2.1) 11 z.2.2.2.2.2.2.1) 12 z.2.2.2.2.2.2.2.1) 13 z.2.2.2.2.2.2.2.2.1) 14 z.2.2.2.2.2.2.2.2.2.1) 15 z.2.2.2.2.2.2.2.2.2.2.1) 16 z.2.2.2.2.2.2.2.2.2.2.2.1) 17 z.2.2.2.2.2.2.2.2.2.2.2.2.1) 18 z.2.2.2.2.2.2.2.2.2.2.2.2.2.1) 19 z.2.2.2.2.2.2.2.2.2.2.2.2.2.2.1) 20 z.2.2.2.2.2.2.2.2.2.2.2.2.2.2.2.1) 21 z.2.2.2.2.2.2.2.2.2.2.2.2.2.2.2.2.1) 22 z.2.2.2.2.2.2.2.2.2.2.2.2.2.2.2.2.2.1) 23 z.2.2.2.2.2.2.2.2.2.2.2.2.2.2.2.2.2.2.1) 24 z.2.2.2.2.2.2.2.2.2.2.2.2.2.2.2.2.2.2.2.1) 25 z.2.2.2.2.2.2.2.2.2.2.2.2.2.2.2.2.2.2.2.2)
theorem pS_0 {S : Nat → Nat → Int32} {z : kpS} : pS S z 0 = z.2.1 := by
  unfold pS
  rw [va_n (show (0 : Nat) ≠ 25 by decide), va_n (show (0 : Nat) ≠ 24 by decide), va_n (show (0 : Nat) ≠ 23 by decide), va_n (show (0 : Nat) ≠ 22 by decide), va_n (show (0 : Nat) ≠ 21 by decide), va_n (show (0 : Nat) ≠ 20 by decide), va_n (show (0 : Nat) ≠ 19 by decide), va_n (show (0 : Nat) ≠ 18 by decide), va_n (show (0 : Nat) ≠ 17 by decide), va_n (show (0 : Nat) ≠ 16 by decide), va_n (show (0 : Nat) ≠ 15 by decide), va_n (show (0 : Nat) ≠ 14 by decide), va_n (show (0 : Nat) ≠ 13 by decide), va_n (show (0 : Nat) ≠ 12 by decide), va_n (show (0 : Nat) ≠ 11 by decide), va_n (show (0 : Nat) ≠ 9 by decide), va_n (show (0 : Nat) ≠ 6 by decide), va_n (show (0 : Nat) ≠ 5 by decide), va_s]
theorem pS_5 {S : Nat → Nat → Int32} {z : kpS} : pS S z 5 = z.2.2.1 := by
  unfold pS
  rw [va_n (show (5 : Nat) ≠ 25 by decide), va_n (show (5 : Nat) ≠ 24 by decide), va_n (show (5 : Nat) ≠ 23 by decide), va_n (show (5 : Nat) ≠ 22 by decide), va_n (show (5 : Nat) ≠ 21 by decide), va_n (show (5 : Nat) ≠ 20 by decide), va_n (show (5 : Nat) ≠ 19 by decide), va_n (show (5 : Nat) ≠ 18 by decide), va_n (show (5 : Nat) ≠ 17 by decide), va_n (show (5 : Nat) ≠ 16 by decide), va_n (show (5 : Nat) ≠ 15 by decide), va_n (show (5 : Nat) ≠ 14 by decide), va_n (show (5 : Nat) ≠ 13 by decide), va_n (show (5 : Nat) ≠ 12 by decide), va_n (show (5 : Nat) ≠ 11 by decide), va_n (show (5 : Nat) ≠ 9 by decide), va_n (show (5 : Nat) ≠ 6 by decide), va_s]
theorem pS_6 {S : Nat → Nat → Int32} {z : kpS} : pS S z 6 = z.2.2.2.1 := by
  unfold pS
  rw [va_n (show (6 : Nat) ≠ 25 by decide), va_n (show (6 : Nat) ≠ 24 by decide), va_n (show (6 : Nat) ≠ 23 by decide), va_n (show (6 : Nat) ≠ 22 by decide), va_n (show (6 : Nat) ≠ 21 by decide), va_n (show (6 : Nat) ≠ 20 by decide), va_n (show (6 : Nat) ≠ 19 by decide), va_n (show (6 : Nat) ≠ 18 by decide), va_n (show (6 : Nat) ≠ 17 by decide), va_n (show (6 : Nat) ≠ 16 by decide), va_n (show (6 : Nat) ≠ 15 by decide), va_n (show (6 : Nat) ≠ 14 by decide), va_n (show (6 : Nat) ≠ 13 by decide), va_n (show (6 : Nat) ≠ 12 by decide), va_n (show (6 : Nat) ≠ 11 by decide), va_n (show (6 : Nat) ≠ 9 by decide), va_s]
theorem pS_9 {S : Nat → Nat → Int32} {z : kpS} : pS S z 9 = z.2.2.2.2.2.1 := by
  unfold pS
  rw [va_n (show (9 : Nat) ≠ 25 by decide), va_n (show (9 : Nat) ≠ 24 by decide), va_n (show (9 : Nat) ≠ 23 by decide), va_n (show (9 : Nat) ≠ 22 by decide), va_n (show (9 : Nat) ≠ 21 by decide), va_n (show (9 : Nat) ≠ 20 by decide), va_n (show (9 : Nat) ≠ 19 by decide), va_n (show (9 : Nat) ≠ 18 by decide), va_n (show (9 : Nat) ≠ 17 by decide), va_n (show (9 : Nat) ≠ 16 by decide), va_n (show (9 : Nat) ≠ 15 by decide), va_n (show (9 : Nat) ≠ 14 by decide), va_n (show (9 : Nat) ≠ 13 by decide), va_n (show (9 : Nat) ≠ 12 by decide), va_n (show (9 : Nat) ≠ 11 by decide), va_s]
theorem pS_11 {S : Nat → Nat → Int32} {z : kpS} : pS S z 11 = z.2.2.2.2.2.2.1 := by
  unfold pS
  rw [va_n (show (11 : Nat) ≠ 25 by decide), va_n (show (11 : Nat) ≠ 24 by decide), va_n (show (11 : Nat) ≠ 23 by decide), va_n (show (11 : Nat) ≠ 22 by decide), va_n (show (11 : Nat) ≠ 21 by decide), va_n (show (11 : Nat) ≠ 20 by decide), va_n (show (11 : Nat) ≠ 19 by decide), va_n (show (11 : Nat) ≠ 18 by decide), va_n (show (11 : Nat) ≠ 17 by decide), va_n (show (11 : Nat) ≠ 16 by decide), va_n (show (11 : Nat) ≠ 15 by decide), va_n (show (11 : Nat) ≠ 14 by decide), va_n (show (11 : Nat) ≠ 13 by decide), va_n (show (11 : Nat) ≠ 12 by decide), va_s]
theorem pS_12 {S : Nat → Nat → Int32} {z : kpS} : pS S z 12 = z.2.2.2.2.2.2.2.1 := by
  unfold pS
  rw [va_n (show (12 : Nat) ≠ 25 by decide), va_n (show (12 : Nat) ≠ 24 by decide), va_n (show (12 : Nat) ≠ 23 by decide), va_n (show (12 : Nat) ≠ 22 by decide), va_n (show (12 : Nat) ≠ 21 by decide), va_n (show (12 : Nat) ≠ 20 by decide), va_n (show (12 : Nat) ≠ 19 by decide), va_n (show (12 : Nat) ≠ 18 by decide), va_n (show (12 : Nat) ≠ 17 by decide), va_n (show (12 : Nat) ≠ 16 by decide), va_n (show (12 : Nat) ≠ 15 by decide), va_n (show (12 : Nat) ≠ 14 by decide), va_n (show (12 : Nat) ≠ 13 by decide), va_s]
theorem pS_13 {S : Nat → Nat → Int32} {z : kpS} : pS S z 13 = z.2.2.2.2.2.2.2.2.1 := by
  unfold pS
  rw [va_n (show (13 : Nat) ≠ 25 by decide), va_n (show (13 : Nat) ≠ 24 by decide), va_n (show (13 : Nat) ≠ 23 by decide), va_n (show (13 : Nat) ≠ 22 by decide), va_n (show (13 : Nat) ≠ 21 by decide), va_n (show (13 : Nat) ≠ 20 by decide), va_n (show (13 : Nat) ≠ 19 by decide), va_n (show (13 : Nat) ≠ 18 by decide), va_n (show (13 : Nat) ≠ 17 by decide), va_n (show (13 : Nat) ≠ 16 by decide), va_n (show (13 : Nat) ≠ 15 by decide), va_n (show (13 : Nat) ≠ 14 by decide), va_s]
theorem pS_14 {S : Nat → Nat → Int32} {z : kpS} : pS S z 14 = z.2.2.2.2.2.2.2.2.2.1 := by
  unfold pS
  rw [va_n (show (14 : Nat) ≠ 25 by decide), va_n (show (14 : Nat) ≠ 24 by decide), va_n (show (14 : Nat) ≠ 23 by decide), va_n (show (14 : Nat) ≠ 22 by decide), va_n (show (14 : Nat) ≠ 21 by decide), va_n (show (14 : Nat) ≠ 20 by decide), va_n (show (14 : Nat) ≠ 19 by decide), va_n (show (14 : Nat) ≠ 18 by decide), va_n (show (14 : Nat) ≠ 17 by decide), va_n (show (14 : Nat) ≠ 16 by decide), va_n (show (14 : Nat) ≠ 15 by decide), va_s]
theorem pS_15 {S : Nat → Nat → Int32} {z : kpS} : pS S z 15 = z.2.2.2.2.2.2.2.2.2.2.1 := by
  unfold pS
  rw [va_n (show (15 : Nat) ≠ 25 by decide), va_n (show (15 : Nat) ≠ 24 by decide), va_n (show (15 : Nat) ≠ 23 by decide), va_n (show (15 : Nat) ≠ 22 by decide), va_n (show (15 : Nat) ≠ 21 by decide), va_n (show (15 : Nat) ≠ 20 by decide), va_n (show (15 : Nat) ≠ 19 by decide), va_n (show (15 : Nat) ≠ 18 by decide), va_n (show (15 : Nat) ≠ 17 by decide), va_n (show (15 : Nat) ≠ 16 by decide), va_s]
theorem pS_16 {S : Nat → Nat → Int32} {z : kpS} : pS S z 16 = z.2.2.2.2.2.2.2.2.2.2.2.1 := by
  unfold pS
  rw [va_n (show (16 : Nat) ≠ 25 by decide), va_n (show (16 : Nat) ≠ 24 by decide), va_n (show (16 : Nat) ≠ 23 by decide), va_n (show (16 : Nat) ≠ 22 by decide), va_n (show (16 : Nat) ≠ 21 by decide), va_n (show (16 : Nat) ≠ 20 by decide), va_n (show (16 : Nat) ≠ 19 by decide), va_n (show (16 : Nat) ≠ 18 by decide), va_n (show (16 : Nat) ≠ 17 by decide), va_s]
theorem pS_17 {S : Nat → Nat → Int32} {z : kpS} : pS S z 17 = z.2.2.2.2.2.2.2.2.2.2.2.2.1 := by
  unfold pS
  rw [va_n (show (17 : Nat) ≠ 25 by decide), va_n (show (17 : Nat) ≠ 24 by decide), va_n (show (17 : Nat) ≠ 23 by decide), va_n (show (17 : Nat) ≠ 22 by decide), va_n (show (17 : Nat) ≠ 21 by decide), va_n (show (17 : Nat) ≠ 20 by decide), va_n (show (17 : Nat) ≠ 19 by decide), va_n (show (17 : Nat) ≠ 18 by decide), va_s]
theorem pS_18 {S : Nat → Nat → Int32} {z : kpS} : pS S z 18 = z.2.2.2.2.2.2.2.2.2.2.2.2.2.1 := by
  unfold pS
  rw [va_n (show (18 : Nat) ≠ 25 by decide), va_n (show (18 : Nat) ≠ 24 by decide), va_n (show (18 : Nat) ≠ 23 by decide), va_n (show (18 : Nat) ≠ 22 by decide), va_n (show (18 : Nat) ≠ 21 by decide), va_n (show (18 : Nat) ≠ 20 by decide), va_n (show (18 : Nat) ≠ 19 by decide), va_s]
theorem pS_19 {S : Nat → Nat → Int32} {z : kpS} : pS S z 19 = z.2.2.2.2.2.2.2.2.2.2.2.2.2.2.1 := by
  unfold pS
  rw [va_n (show (19 : Nat) ≠ 25 by decide), va_n (show (19 : Nat) ≠ 24 by decide), va_n (show (19 : Nat) ≠ 23 by decide), va_n (show (19 : Nat) ≠ 22 by decide), va_n (show (19 : Nat) ≠ 21 by decide), va_n (show (19 : Nat) ≠ 20 by decide), va_s]
theorem pS_20 {S : Nat → Nat → Int32} {z : kpS} : pS S z 20 = z.2.2.2.2.2.2.2.2.2.2.2.2.2.2.2.1 := by
  unfold pS
  rw [va_n (show (20 : Nat) ≠ 25 by decide), va_n (show (20 : Nat) ≠ 24 by decide), va_n (show (20 : Nat) ≠ 23 by decide), va_n (show (20 : Nat) ≠ 22 by decide), va_n (show (20 : Nat) ≠ 21 by decide), va_s]
theorem pS_21 {S : Nat → Nat → Int32} {z : kpS} : pS S z 21 = z.2.2.2.2.2.2.2.2.2.2.2.2.2.2.2.2.1 := by
  unfold pS
  rw [va_n (show (21 : Nat) ≠ 25 by decide), va_n (show (21 : Nat) ≠ 24 by decide), va_n (show (21 : Nat) ≠ 23 by decide), va_n (show (21 : Nat) ≠ 22 by decide), va_s]
theorem pS_22 {S : Nat → Nat → Int32} {z : kpS} : pS S z 22 = z.2.2.2.2.2.2.2.2.2.2.2.2.2.2.2.2.2.1 := by
  unfold pS
  rw [va_n (show (22 : Nat) ≠ 25 by decide), va_n (show (22 : Nat) ≠ 24 by decide), va_n (show (22 : Nat) ≠ 23 by decide), va_s]
theorem pS_23 {S : Nat → Nat → Int32} {z : kpS} : pS S z 23 = z.2.2.2.2.2.2.2.2.2.2.2.2.2.2.2.2.2.2.1 := by
  unfold pS
  rw [va_n (show (23 : Nat) ≠ 25 by decide), va_n (show (23 : Nat) ≠ 24 by decide), va_s]
theorem pS_24 {S : Nat → Nat → Int32} {z : kpS} : pS S z 24 = z.2.2.2.2.2.2.2.2.2.2.2.2.2.2.2.2.2.2.2.1 := by
  unfold pS
  rw [va_n (show (24 : Nat) ≠ 25 by decide), va_s]
theorem pS_25 {S : Nat → Nat → Int32} {z : kpS} : pS S z 25 = z.2.2.2.2.2.2.2.2.2.2.2.2.2.2.2.2.2.2.2.2 := by
  unfold pS
  rw [va_s]
theorem pS_lo {S : Nat → Nat → Int32} {z : kpS} {a : Nat} (h : a = 1 ∨ a = 2 ∨ a = 3 ∨ a = 4 ∨ a = 7 ∨ a = 8 ∨ a = 10) : pS S z a = S a := by
  unfold pS
  rw [va_n (show a ≠ 25 by omega), va_n (show a ≠ 24 by omega), va_n (show a ≠ 23 by omega), va_n (show a ≠ 22 by omega), va_n (show a ≠ 21 by omega), va_n (show a ≠ 20 by omega), va_n (show a ≠ 19 by omega), va_n (show a ≠ 18 by omega), va_n (show a ≠ 17 by omega), va_n (show a ≠ 16 by omega), va_n (show a ≠ 15 by omega), va_n (show a ≠ 14 by omega), va_n (show a ≠ 13 by omega), va_n (show a ≠ 12 by omega), va_n (show a ≠ 11 by omega), va_n (show a ≠ 9 by omega), va_n (show a ≠ 6 by omega), va_n (show a ≠ 5 by omega), va_n (show a ≠ 0 by omega)]
theorem pS_let (S : Nat → Nat → Int32) (z : kpS) : s_X7_letMinutePass z.2.1 z.2.2.1 (S 4) (S 10) z.2.2.2.1 (S 1) (S 2) z.2.2.2.2.1 z.2.2.2.2.2.2.2.2.2.2.2.2.2.2.1 z.2.2.2.2.2.2.2.2.2.2.2.2.2.2.2.2.2.1 z.2.2.2.2.2.2.2.2.2.2.2.2.2.2.2.1 z.2.2.2.2.2.2.2.2.2.2.2.2.2.2.2.2.2.2.1 z.2.2.2.2.2.2.2.2.2.2.2.2.2.2.2.2.1 z.2.2.2.2.2.2.2.2.2.2.2.2.2.2.2.2.2.2.2.1 (S 3) z.2.2.2.2.2.1 z.2.2.2.2.2.2.2.2.2.2.2.2.2.2.2.2.2.2.2.2 z.2.2.2.2.2.2.1 z.2.2.2.2.2.2.2.2.2.2.1 z.2.2.2.2.2.2.2.1 z.2.2.2.2.2.2.2.2.2.2.2.1 z.2.2.2.2.2.2.2.2.1 z.2.2.2.2.2.2.2.2.2.2.2.2.1 z.2.2.2.2.2.2.2.2.2.1 z.2.2.2.2.2.2.2.2.2.2.2.2.2.1 = mnR (pS S z) z.2.2.2.2.1 := by
  unfold mnR
  rw [pS_0, pS_5, pS_lo (show (4 : Nat) = 1 ∨ (4 : Nat) = 2 ∨ (4 : Nat) = 3 ∨ (4 : Nat) = 4 ∨ (4 : Nat) = 7 ∨ (4 : Nat) = 8 ∨ (4 : Nat) = 10 by decide), pS_lo (show (10 : Nat) = 1 ∨ (10 : Nat) = 2 ∨ (10 : Nat) = 3 ∨ (10 : Nat) = 4 ∨ (10 : Nat) = 7 ∨ (10 : Nat) = 8 ∨ (10 : Nat) = 10 by decide), pS_6, pS_lo (show (1 : Nat) = 1 ∨ (1 : Nat) = 2 ∨ (1 : Nat) = 3 ∨ (1 : Nat) = 4 ∨ (1 : Nat) = 7 ∨ (1 : Nat) = 8 ∨ (1 : Nat) = 10 by decide), pS_lo (show (2 : Nat) = 1 ∨ (2 : Nat) = 2 ∨ (2 : Nat) = 3 ∨ (2 : Nat) = 4 ∨ (2 : Nat) = 7 ∨ (2 : Nat) = 8 ∨ (2 : Nat) = 10 by decide), pS_19, pS_22, pS_20, pS_23, pS_21, pS_24, pS_lo (show (3 : Nat) = 1 ∨ (3 : Nat) = 2 ∨ (3 : Nat) = 3 ∨ (3 : Nat) = 4 ∨ (3 : Nat) = 7 ∨ (3 : Nat) = 8 ∨ (3 : Nat) = 10 by decide), pS_9, pS_25, pS_11, pS_15, pS_12, pS_16, pS_13, pS_17, pS_14, pS_18]
theorem pS_ok {T : Int} {S : Nat → Nat → Int32} {z : kpS} (h : pOr T z.2.1 (S 4) z.2.2.1 z.2.2.2.1 z.2.2.2.2.2.1) : pOK T (pS S z) := by
  unfold pOK
  rw [pS_0, pS_5, pS_6, pS_9, pS_lo (show (4 : Nat) = 1 ∨ (4 : Nat) = 2 ∨ (4 : Nat) = 3 ∨ (4 : Nat) = 4 ∨ (4 : Nat) = 7 ∨ (4 : Nat) = 8 ∨ (4 : Nat) = 10 by decide)]
  exact h
theorem pS_b (S : Nat → Nat → Int32) (p0 : Int32) (z : kpS) : b_X10_pass_L47 p0 (S 4) (S 10) (S 1) (S 2) (S 3) z = if p0 ≤ z.1 then .inr z else .inl ((z.1 + 1), (mnR (pS S z) z.2.2.2.2.1).1, (mnR (pS S z) z.2.2.2.2.1).2.1, (mnR (pS S z) z.2.2.2.2.1).2.2.1, (mnR (pS S z) z.2.2.2.2.1).2.2.2.1, (mnR (pS S z) z.2.2.2.2.1).2.2.2.2.2.2.2.2.2.2.1, (mnR (pS S z) z.2.2.2.2.1).2.2.2.2.2.2.2.2.2.2.2.2.1, (mnR (pS S z) z.2.2.2.2.1).2.2.2.2.2.2.2.2.2.2.2.2.2.2.1, (mnR (pS S z) z.2.2.2.2.1).2.2.2.2.2.2.2.2.2.2.2.2.2.2.2.2.1, (mnR (pS S z) z.2.2.2.2.1).2.2.2.2.2.2.2.2.2.2.2.2.2.2.2.2.2.2.1, (mnR (pS S z) z.2.2.2.2.1).2.2.2.2.2.2.2.2.2.2.2.2.2.1, (mnR (pS S z) z.2.2.2.2.1).2.2.2.2.2.2.2.2.2.2.2.2.2.2.2.1, (mnR (pS S z) z.2.2.2.2.1).2.2.2.2.2.2.2.2.2.2.2.2.2.2.2.2.2.1, (mnR (pS S z) z.2.2.2.2.1).2.2.2.2.2.2.2.2.2.2.2.2.2.2.2.2.2.2.2, (mnR (pS S z) z.2.2.2.2.1).2.2.2.2.1, (mnR (pS S z) z.2.2.2.2.1).2.2.2.2.2.2.1, (mnR (pS S z) z.2.2.2.2.1).2.2.2.2.2.2.2.2.1, (mnR (pS S z) z.2.2.2.2.1).2.2.2.2.2.1, (mnR (pS S z) z.2.2.2.2.1).2.2.2.2.2.2.2.1, (mnR (pS S z) z.2.2.2.2.1).2.2.2.2.2.2.2.2.2.1, (mnR (pS S z) z.2.2.2.2.1).2.2.2.2.2.2.2.2.2.2.2.1) := by
  unfold b_X10_pass_L47 b_X10_pass_1
  rw [pS_let S z]
theorem ps_loop {T : Int} {S : Nat → Nat → Int32} {p0 : Int32} {N : Nat} {z0 : kpS} (hp : p0 = nI N) (hT : 0 ≤ T ∧ T + (N : Int) ≤ 30000) (h : pOr T z0.2.1 (S 4) z0.2.2.1 z0.2.2.2.1 z0.2.2.2.2.2.1) (hz : z0.1 = 0) : (fun r : kpS => pOr (T + (N : Int)) r.2.1 (S 4) r.2.2.1 r.2.2.2.1 r.2.2.2.2.2.1) (kLoop default (b_X10_pass_L47 p0 (S 4) (S 10) (S 1) (S 2) (S 3)) ((Int32.toInt p0 - Int32.toInt 0).toNat + 1) z0) := by
  have hNb : N < 2 ^ 31 := by omega
  have ef : (Int32.toInt p0 - Int32.toInt 0).toNat + 1 = N + 1 := by
    rw [hp, nI_toInt hNb, show Int32.toInt 0 = 0 by decide]
    omega
  rw [ef]
  refine kOne N (fun i z => z.1 = nI i ∧ pOr (T + (i : Int)) z.2.1 (S 4) z.2.2.1 z.2.2.2.1 z.2.2.2.2.2.1) (fun r : kpS => pOr (T + (N : Int)) r.2.1 (S 4) r.2.2.1 r.2.2.2.1 r.2.2.2.2.2.1) (fun i z hi hq => ?_) (N + 1) 0 z0 (Nat.zero_le _) (by omega) ⟨hz, by rw [show T + ((0 : Nat) : Int) = T by omega]; exact h⟩
  obtain ⟨q1, q3⟩ := hq
  have eb := pS_b S p0 z
  by_cases c : i = N
  · subst c
    refine Or.inl ⟨z, ?_, q3⟩
    rw [eb, q1, hp, if_pos (nI_le (Nat.le_refl _) hNb)]
  · have hlt : i < N := by omega
    have cn : ¬ nI N ≤ nI i := nI_ge hlt hNb
    have k1 := (mn_all (T := T + (i : Int)) z.2.2.2.2.1 (pS_ok q3) (by omega)).1
    rw [pS_lo (show (4 : Nat) = 1 ∨ (4 : Nat) = 2 ∨ (4 : Nat) = 3 ∨ (4 : Nat) = 4 ∨ (4 : Nat) = 7 ∨ (4 : Nat) = 8 ∨ (4 : Nat) = 10 by decide)] at k1
    generalize mnR (pS S z) z.2.2.2.2.1 = r at eb k1
    refine Or.inr ⟨hlt, ((z.1 + 1), r.1, r.2.1, r.2.2.1, r.2.2.2.1, r.2.2.2.2.2.2.2.2.2.2.1, r.2.2.2.2.2.2.2.2.2.2.2.2.1, r.2.2.2.2.2.2.2.2.2.2.2.2.2.2.1, r.2.2.2.2.2.2.2.2.2.2.2.2.2.2.2.2.1, r.2.2.2.2.2.2.2.2.2.2.2.2.2.2.2.2.2.2.1, r.2.2.2.2.2.2.2.2.2.2.2.2.2.1, r.2.2.2.2.2.2.2.2.2.2.2.2.2.2.2.1, r.2.2.2.2.2.2.2.2.2.2.2.2.2.2.2.2.2.1, r.2.2.2.2.2.2.2.2.2.2.2.2.2.2.2.2.2.2.2, r.2.2.2.2.1, r.2.2.2.2.2.2.1, r.2.2.2.2.2.2.2.2.1, r.2.2.2.2.2.1, r.2.2.2.2.2.2.2.1, r.2.2.2.2.2.2.2.2.2.1, r.2.2.2.2.2.2.2.2.2.2.2.1), ?_, ?_, ?_⟩
    · rw [eb, hp, q1, if_neg cn]
    · show z.1 + 1 = _
      rw [q1, nI_succ]
    · rw [show T + ((i + 1 : Nat) : Int) = T + (i : Int) + 1 by omega]
      exact k1
theorem ps_one (S : Nat → Nat → Int32) (j : Int64) : kLoop default (b_X10_pass_L47 1 (S 4) (S 10) (S 1) (S 2) (S 3)) ((Int32.toInt 1 - Int32.toInt 0).toNat + 1) (0, (S 0), (S 5), (S 6), j, (S 9), (S 11), (S 12), (S 13), (S 14), (S 15), (S 16), (S 17), (S 18), (S 19), (S 20), (S 21), (S 22), (S 23), (S 24), (S 25)) = (1, (mnR S j).1, (mnR S j).2.1, (mnR S j).2.2.1, (mnR S j).2.2.2.1, (mnR S j).2.2.2.2.2.2.2.2.2.2.1, (mnR S j).2.2.2.2.2.2.2.2.2.2.2.2.1, (mnR S j).2.2.2.2.2.2.2.2.2.2.2.2.2.2.1, (mnR S j).2.2.2.2.2.2.2.2.2.2.2.2.2.2.2.2.1, (mnR S j).2.2.2.2.2.2.2.2.2.2.2.2.2.2.2.2.2.2.1, (mnR S j).2.2.2.2.2.2.2.2.2.2.2.2.2.1, (mnR S j).2.2.2.2.2.2.2.2.2.2.2.2.2.2.2.1, (mnR S j).2.2.2.2.2.2.2.2.2.2.2.2.2.2.2.2.2.1, (mnR S j).2.2.2.2.2.2.2.2.2.2.2.2.2.2.2.2.2.2.2, (mnR S j).2.2.2.2.1, (mnR S j).2.2.2.2.2.2.1, (mnR S j).2.2.2.2.2.2.2.2.1, (mnR S j).2.2.2.2.2.1, (mnR S j).2.2.2.2.2.2.2.1, (mnR S j).2.2.2.2.2.2.2.2.2.1, (mnR S j).2.2.2.2.2.2.2.2.2.2.2.1) := by
  have ef : (Int32.toInt 1 - Int32.toInt 0).toNat + 1 = 0 + 1 + 1 := by decide
  have hb1 : ∀ r : k20, mnR S j = r → b_X10_pass_L47 1 (S 4) (S 10) (S 1) (S 2) (S 3) (0, (S 0), (S 5), (S 6), j, (S 9), (S 11), (S 12), (S 13), (S 14), (S 15), (S 16), (S 17), (S 18), (S 19), (S 20), (S 21), (S 22), (S 23), (S 24), (S 25)) = .inl ((0 + 1), r.1, r.2.1, r.2.2.1, r.2.2.2.1, r.2.2.2.2.2.2.2.2.2.2.1, r.2.2.2.2.2.2.2.2.2.2.2.2.1, r.2.2.2.2.2.2.2.2.2.2.2.2.2.2.1, r.2.2.2.2.2.2.2.2.2.2.2.2.2.2.2.2.1, r.2.2.2.2.2.2.2.2.2.2.2.2.2.2.2.2.2.2.1, r.2.2.2.2.2.2.2.2.2.2.2.2.2.1, r.2.2.2.2.2.2.2.2.2.2.2.2.2.2.2.1, r.2.2.2.2.2.2.2.2.2.2.2.2.2.2.2.2.2.1, r.2.2.2.2.2.2.2.2.2.2.2.2.2.2.2.2.2.2.2, r.2.2.2.2.1, r.2.2.2.2.2.2.1, r.2.2.2.2.2.2.2.2.1, r.2.2.2.2.2.1, r.2.2.2.2.2.2.2.1, r.2.2.2.2.2.2.2.2.2.1, r.2.2.2.2.2.2.2.2.2.2.2.1) := by
    intro r hr
    unfold b_X10_pass_L47
    refine (if_neg (show ¬ (1 : Int32) ≤ 0 by decide)).trans ?_
    show b_X10_pass_1 (0, (S 0), (S 5), (S 6), j, (S 9), (S 11), (S 12), (S 13), (S 14), (S 15), (S 16), (S 17), (S 18), (S 19), (S 20), (S 21), (S 22), (S 23), (S 24), (S 25)) (mnR S j) = _
    rw [hr]
    rfl
  generalize hr : mnR S j = r
  have hb1 := hb1 r hr
  have hb2 : b_X10_pass_L47 1 (S 4) (S 10) (S 1) (S 2) (S 3) ((0 + 1), r.1, r.2.1, r.2.2.1, r.2.2.2.1, r.2.2.2.2.2.2.2.2.2.2.1, r.2.2.2.2.2.2.2.2.2.2.2.2.1, r.2.2.2.2.2.2.2.2.2.2.2.2.2.2.1, r.2.2.2.2.2.2.2.2.2.2.2.2.2.2.2.2.1, r.2.2.2.2.2.2.2.2.2.2.2.2.2.2.2.2.2.2.1, r.2.2.2.2.2.2.2.2.2.2.2.2.2.1, r.2.2.2.2.2.2.2.2.2.2.2.2.2.2.2.1, r.2.2.2.2.2.2.2.2.2.2.2.2.2.2.2.2.2.1, r.2.2.2.2.2.2.2.2.2.2.2.2.2.2.2.2.2.2.2, r.2.2.2.2.1, r.2.2.2.2.2.2.1, r.2.2.2.2.2.2.2.2.1, r.2.2.2.2.2.1, r.2.2.2.2.2.2.2.1, r.2.2.2.2.2.2.2.2.2.1, r.2.2.2.2.2.2.2.2.2.2.2.1) = .inr (1, r.1, r.2.1, r.2.2.1, r.2.2.2.1, r.2.2.2.2.2.2.2.2.2.2.1, r.2.2.2.2.2.2.2.2.2.2.2.2.1, r.2.2.2.2.2.2.2.2.2.2.2.2.2.2.1, r.2.2.2.2.2.2.2.2.2.2.2.2.2.2.2.2.1, r.2.2.2.2.2.2.2.2.2.2.2.2.2.2.2.2.2.2.1, r.2.2.2.2.2.2.2.2.2.2.2.2.2.1, r.2.2.2.2.2.2.2.2.2.2.2.2.2.2.2.1, r.2.2.2.2.2.2.2.2.2.2.2.2.2.2.2.2.2.1, r.2.2.2.2.2.2.2.2.2.2.2.2.2.2.2.2.2.2.2, r.2.2.2.2.1, r.2.2.2.2.2.2.1, r.2.2.2.2.2.2.2.2.1, r.2.2.2.2.2.1, r.2.2.2.2.2.2.2.1, r.2.2.2.2.2.2.2.2.2.1, r.2.2.2.2.2.2.2.2.2.2.2.1) := by
    unfold b_X10_pass_L47
    refine (if_pos (show (1 : Int32) ≤ 0 + 1 by decide)).trans ?_
    rfl
  rw [ef, kLoop_in hb1, kLoop_out hb2]
theorem vs_one (S : Nat → Nat → Int32) (j : Int64) : kLoop default (b_X10_valueIn_L29 1 (S 4) (S 10) (S 1) (S 2) (S 3)) ((Int32.toInt 1 - Int32.toInt 0).toNat + 1) (0, (S 0), (S 5), (S 6), (S 11), (S 15), (S 12), (S 16), (S 13), (S 17), (S 14), (S 18), j, (S 19), (S 22), (S 20), (S 23), (S 21), (S 24), (S 9), (S 25)) = (1, (mnR S j).1, (mnR S j).2.1, (mnR S j).2.2.1, (mnR S j).2.2.2.2.2.2.2.2.2.2.2.2.1, (mnR S j).2.2.2.2.2.2.2.2.2.2.2.2.2.1, (mnR S j).2.2.2.2.2.2.2.2.2.2.2.2.2.2.1, (mnR S j).2.2.2.2.2.2.2.2.2.2.2.2.2.2.2.1, (mnR S j).2.2.2.2.2.2.2.2.2.2.2.2.2.2.2.2.1, (mnR S j).2.2.2.2.2.2.2.2.2.2.2.2.2.2.2.2.2.1, (mnR S j).2.2.2.2.2.2.2.2.2.2.2.2.2.2.2.2.2.2.1, (mnR S j).2.2.2.2.2.2.2.2.2.2.2.2.2.2.2.2.2.2.2, (mnR S j).2.2.2.1, (mnR S j).2.2.2.2.1, (mnR S j).2.2.2.2.2.1, (mnR S j).2.2.2.2.2.2.1, (mnR S j).2.2.2.2.2.2.2.1, (mnR S j).2.2.2.2.2.2.2.2.1, (mnR S j).2.2.2.2.2.2.2.2.2.1, (mnR S j).2.2.2.2.2.2.2.2.2.2.1, (mnR S j).2.2.2.2.2.2.2.2.2.2.2.1) := by
  have ef : (Int32.toInt 1 - Int32.toInt 0).toNat + 1 = 0 + 1 + 1 := by decide
  have hb1 : ∀ r : k20, mnR S j = r → b_X10_valueIn_L29 1 (S 4) (S 10) (S 1) (S 2) (S 3) (0, (S 0), (S 5), (S 6), (S 11), (S 15), (S 12), (S 16), (S 13), (S 17), (S 14), (S 18), j, (S 19), (S 22), (S 20), (S 23), (S 21), (S 24), (S 9), (S 25)) = .inl ((0 + 1), r.1, r.2.1, r.2.2.1, r.2.2.2.2.2.2.2.2.2.2.2.2.1, r.2.2.2.2.2.2.2.2.2.2.2.2.2.1, r.2.2.2.2.2.2.2.2.2.2.2.2.2.2.1, r.2.2.2.2.2.2.2.2.2.2.2.2.2.2.2.1, r.2.2.2.2.2.2.2.2.2.2.2.2.2.2.2.2.1, r.2.2.2.2.2.2.2.2.2.2.2.2.2.2.2.2.2.1, r.2.2.2.2.2.2.2.2.2.2.2.2.2.2.2.2.2.2.1, r.2.2.2.2.2.2.2.2.2.2.2.2.2.2.2.2.2.2.2, r.2.2.2.1, r.2.2.2.2.1, r.2.2.2.2.2.1, r.2.2.2.2.2.2.1, r.2.2.2.2.2.2.2.1, r.2.2.2.2.2.2.2.2.1, r.2.2.2.2.2.2.2.2.2.1, r.2.2.2.2.2.2.2.2.2.2.1, r.2.2.2.2.2.2.2.2.2.2.2.1) := by
    intro r hr
    unfold b_X10_valueIn_L29
    refine (if_neg (show ¬ (1 : Int32) ≤ 0 by decide)).trans ?_
    show b_X10_valueIn_1 (0, (S 0), (S 5), (S 6), (S 11), (S 15), (S 12), (S 16), (S 13), (S 17), (S 14), (S 18), j, (S 19), (S 22), (S 20), (S 23), (S 21), (S 24), (S 9), (S 25)) (mnR S j) = _
    rw [hr]
    rfl
  generalize hr : mnR S j = r
  have hb1 := hb1 r hr
  have hb2 : b_X10_valueIn_L29 1 (S 4) (S 10) (S 1) (S 2) (S 3) ((0 + 1), r.1, r.2.1, r.2.2.1, r.2.2.2.2.2.2.2.2.2.2.2.2.1, r.2.2.2.2.2.2.2.2.2.2.2.2.2.1, r.2.2.2.2.2.2.2.2.2.2.2.2.2.2.1, r.2.2.2.2.2.2.2.2.2.2.2.2.2.2.2.1, r.2.2.2.2.2.2.2.2.2.2.2.2.2.2.2.2.1, r.2.2.2.2.2.2.2.2.2.2.2.2.2.2.2.2.2.1, r.2.2.2.2.2.2.2.2.2.2.2.2.2.2.2.2.2.2.1, r.2.2.2.2.2.2.2.2.2.2.2.2.2.2.2.2.2.2.2, r.2.2.2.1, r.2.2.2.2.1, r.2.2.2.2.2.1, r.2.2.2.2.2.2.1, r.2.2.2.2.2.2.2.1, r.2.2.2.2.2.2.2.2.1, r.2.2.2.2.2.2.2.2.2.1, r.2.2.2.2.2.2.2.2.2.2.1, r.2.2.2.2.2.2.2.2.2.2.2.1) = .inr (1, r.1, r.2.1, r.2.2.1, r.2.2.2.2.2.2.2.2.2.2.2.2.1, r.2.2.2.2.2.2.2.2.2.2.2.2.2.1, r.2.2.2.2.2.2.2.2.2.2.2.2.2.2.1, r.2.2.2.2.2.2.2.2.2.2.2.2.2.2.2.1, r.2.2.2.2.2.2.2.2.2.2.2.2.2.2.2.2.1, r.2.2.2.2.2.2.2.2.2.2.2.2.2.2.2.2.2.1, r.2.2.2.2.2.2.2.2.2.2.2.2.2.2.2.2.2.2.1, r.2.2.2.2.2.2.2.2.2.2.2.2.2.2.2.2.2.2.2, r.2.2.2.1, r.2.2.2.2.1, r.2.2.2.2.2.1, r.2.2.2.2.2.2.1, r.2.2.2.2.2.2.2.1, r.2.2.2.2.2.2.2.2.1, r.2.2.2.2.2.2.2.2.2.1, r.2.2.2.2.2.2.2.2.2.2.1, r.2.2.2.2.2.2.2.2.2.2.2.1) := by
    unfold b_X10_valueIn_L29
    refine (if_pos (show (1 : Int32) ≤ 0 + 1 by decide)).trans ?_
    rfl
  rw [ef, kLoop_in hb1, kLoop_out hb2]
