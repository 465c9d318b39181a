/-! a minute -/
def fpR (S : Nat → Nat → Int32) (j : Int64) : k16 := s_X7_followProgram (S 0) (S 5) (S 6) (S 1) (S 4) (S 10) j (S 19) (S 22) (S 20) (S 23) (S 21) (S 24) (S 11) (S 15) (S 12) (S 16) (S 13) (S 17) (S 14) (S 18)
theorem kRel.follow {T : Int} {S : Nat → Nat → Int32} {j : Int64} {w : Nat → Int64} (h : kRel T S j w) (hT : T ≤ 40000) (f : Nat → Int32) (hn : kRn (if s_X11_goesOn f w = 0 then 0 else 1) w) (ht : (w 32).toInt + 1 ≤ T) (hpp : (w 41).toInt + 1 ≤ T) : kRel T (fpS S (fpR S j)) (fpR S j).2.1 (j_X11_minute_4 f w) ∧ kRn 0 (j_X11_minute_4 f w) := by
  unfold fpR s_X7_followProgram j_X11_minute_4 j_X11_minute_3
  by_cases hg : s_X11_goesOn f w = 0
  · have hg2 : s_X4_goesOn (S 5) = 0 := (h.goes f).symm.trans hg
    rw [if_pos hg] at hn
    rw [if_pos hg, if_pos hg2]
    refine ⟨h.cgA (fun a ha => ?_), hn⟩
    exact
      match a, ha with
      | 0, _ => fpS_lo (by decide)
      | 1, _ => fpS_lo (by decide)
      | 2, _ => fpS_lo (by decide)
      | 3, _ => fpS_lo (by decide)
      | 4, _ => fpS_lo (by decide)
      | 5, _ => fpS_5
      | 6, _ => fpS_lo (by decide)
      | 7, _ => fpS_lo (by decide)
      | 8, _ => fpS_lo (by decide)
      | 9, _ => fpS_lo (by decide)
      | 10, _ => fpS_lo (by decide)
      | 11, _ => fpS_11
      | 12, _ => fpS_12
      | 13, _ => fpS_13
      | 14, _ => fpS_14
      | 15, _ => fpS_15
      | 16, _ => fpS_16
      | 17, _ => fpS_17
      | 18, _ => fpS_18
      | 19, _ => fpS_19
      | 20, _ => fpS_20
      | 21, _ => fpS_21
      | 22, _ => fpS_22
      | 23, _ => fpS_23
      | 24, _ => fpS_24
      | 25, _ => fpS_lo (by decide)
      | n + 26, h => absurd h (by omega)
  · have hg2 : ¬ s_X4_goesOn (S 5) = 0 := fun z => hg ((h.goes f).trans z)
    rw [if_neg hg] at hn
    rw [if_neg hg, if_neg hg2]
    exact h.goOn hT hn f (goes_run hg).1 ht hpp
abbrev k20 : Type := (Nat → Int32) × (Nat → Int32) × (Nat → Int32) × Int64 × (Nat → Int32) × (Nat → Int32) × (Nat → Int32) × (Nat → Int32) × (Nat → Int32) × (Nat → Int32) × (Nat → Int32) × (Nat → Int32) × (Nat → Int32) × (Nat → Int32) × (Nat → Int32) × (Nat → Int32) × (Nat → Int32) × (Nat → Int32) × (Nat → Int32) × (Nat → Int32)
def mnS (S : Nat → Nat → Int32) (r : k20) : Nat → Nat → Int32 := (va_up (va_up (va_up (va_up (va_up (va_up (va_up (va_up (va_up (va_up (va_up (va_up (va_up (va_up (va_up (va_up (va_up (va_up (va_up S 0 r.1) 5 r.2.1) 6 r.2.2.1) 19 r.2.2.2.2.1) 22 r.2.2.2.2.2.1) 20 r.2.2.2.2.2.2.1) 23 r.2.2.2.2.2.2.2.1) 21 r.2.2.2.2.2.2.2.2.1) 24 r.2.2.2.2.2.2.2.2.2.1) 9 r.2.2.2.2.2.2.2.2.2.2.1) 25 r.2.2.2.2.2.2.2.2.2.2.2.1) 11 r.2.2.2.2.2.2.2.2.2.2.2.2.1) 15 r.2.2.2.2.2.2.2.2.2.2.2.2.2.1) 12 r.2.2.2.2.2.2.2.2.2.2.2.2.2.2.1) 16 r.2.2.2.2.2.2.2.2.2.2.2.2.2.2.2.1) 13 r.2.2.2.2.2.2.2.2.2.2.2.2.2.2.2.2.1) 17 r.2.2.2.2.2.2.2.2.2.2.2.2.2.2.2.2.2.1) 14 r.2.2.2.2.2.2.2.2.2.2.2.2.2.2.2.2.2.2.1) 18 r.2.2.2.2.2.2.2.2.2.2.2.2.2.2.2.2.2.2.2)
theorem mnS_0 {S : Nat → Nat → Int32} {r : k20} : mnS S r 0 = r.1 := by
  unfold mnS
  rw [va_n (show (0 : Nat) ≠ 18 by decide), va_n (show (0 : Nat) ≠ 14 by decide), va_n (show (0 : Nat) ≠ 17 by decide), va_n (show (0 : Nat) ≠ 13 by decide), va_n (show (0 : Nat) ≠ 16 by decide), va_n (show (0 : Nat) ≠ 12 by decide), va_n (show (0 : Nat) ≠ 15 by decide), va_n (show (0 : Nat) ≠ 11 by decide), va_n (show (0 : Nat) ≠ 25 by decide), va_n (show (0 : Nat) ≠ 9 by decide), va_n (show (0 : Nat) ≠ 24 by decide), va_n (show (0 : Nat) ≠ 21 by decide), va_n (show (0 : Nat) ≠ 23 by decide), va_n (show (0 : Nat) ≠ 20 by decide), va_n (show (0 : Nat) ≠ 22 by decide), va_n (show (0 : Nat) ≠ 19 by decide), va_n (show (0 : Nat) ≠ 6 by decide), va_n (show (0 : Nat) ≠ 5 by decide), va_s]
theorem mnS_5 {S : Nat → Nat → Int32} {r : k20} : mnS S r 5 = r.2.1 := by
  unfold mnS
  rw [va_n (show (5 : Nat) ≠ 18 by decide), va_n (show (5 : Nat) ≠ 14 by decide), va_n (show (5 : Nat) ≠ 17 by decide), va_n (show (5 : Nat) ≠ 13 by decide), va_n (show (5 : Nat) ≠ 16 by decide), va_n (show (5 : Nat) ≠ 12 by decide), va_n (show (5 : Nat) ≠ 15 by decide), va_n (show (5 : Nat) ≠ 11 by decide), va_n (show (5 : Nat) ≠ 25 by decide), va_n (show (5 : Nat) ≠ 9 by decide), va_n (show (5 : Nat) ≠ 24 by decide), va_n (show (5 : Nat) ≠ 21 by decide), va_n (show (5 : Nat) ≠ 23 by decide), va_n (show (5 : Nat) ≠ 20 by decide), va_n (show (5 : Nat) ≠ 22 by decide), va_n (show (5 : Nat) ≠ 19 by decide), va_n (show (5 : Nat) ≠ 6 by decide), va_s]
theorem mnS_6 {S : Nat → Nat → Int32} {r : k20} : mnS S r 6 = r.2.2.1 := by
  unfold mnS
  rw [va_n (show (6 : Nat) ≠ 18 by decide), va_n (show (6 : Nat) ≠ 14 by decide), va_n (show (6 : Nat) ≠ 17 by decide), va_n (show (6 : Nat) ≠ 13 by decide), va_n (show (6 : Nat) ≠ 16 by decide), va_n (show (6 : Nat) ≠ 12 by decide), va_n (show (6 : Nat) ≠ 15 by decide), va_n (show (6 : Nat) ≠ 11 by decide), va_n (show (6 : Nat) ≠ 25 by decide), va_n (show (6 : Nat) ≠ 9 by decide), va_n (show (6 : Nat) ≠ 24 by decide), va_n (show (6 : Nat) ≠ 21 by decide), va_n (show (6 : Nat) ≠ 23 by decide), va_n (show (6 : Nat) ≠ 20 by decide), va_n (show (6 : Nat) ≠ 22 by decide), va_n (show (6 : Nat) ≠ 19 by decide), va_s]
theorem mnS_19 {S : Nat → Nat → Int32} {r : k20} : mnS S r 19 = r.2.2.2.2.1 := by
  unfold mnS
  rw [va_n (show (19 : Nat) ≠ 18 by decide), va_n (show (19 : Nat) ≠ 14 by decide), va_n (show (19 : Nat) ≠ 17 by decide), va_n (show (19 : Nat) ≠ 13 by decide), va_n (show (19 : Nat) ≠ 16 by decide), va_n (show (19 : Nat) ≠ 12 by decide), va_n (show (19 : Nat) ≠ 15 by decide), va_n (show (19 : Nat) ≠ 11 by decide), va_n (show (19 : Nat) ≠ 25 by decide), va_n (show (19 : Nat) ≠ 9 by decide), va_n (show (19 : Nat) ≠ 24 by decide), va_n (show (19 : Nat) ≠ 21 by decide), va_n (show (19 : Nat) ≠ 23 by decide), va_n (show (19 : Nat) ≠ 20 by decide), va_n (show (19 : Nat) ≠ 22 by decide), va_s]
theorem mnS_22 {S : Nat → Nat → Int32} {r : k20} : mnS S r 22 = r.2.2.2.2.2.1 := by
  unfold mnS
  rw [va_n (show (22 : Nat) ≠ 18 by decide), va_n (show (22 : Nat) ≠ 14 by decide), va_n (show (22 : Nat) ≠ 17 by decide), va_n (show (22 : Nat) ≠ 13 by decide), va_n (show (22 : Nat) ≠ 16 by decide), va_n (show (22 : Nat) ≠ 12 by decide), va_n (show (22 : Nat) ≠ 15 by decide), va_n (show (22 : Nat) ≠ 11 by decide), va_n (show (22 : Nat) ≠ 25 by decide), va_n (show (22 : Nat) ≠ 9 by decide), va_n (show (22 : Nat) ≠ 24 by decide), va_n (show (22 : Nat) ≠ 21 by decide), va_n (show (22 : Nat) ≠ 23 by decide), va_n (show (22 : Nat) ≠ 20 by decide), va_s]
theorem mnS_20 {S : Nat → Nat → Int32} {r : k20} : mnS S r 20 = r.2.2.2.2.2.2.1 := by
  unfold mnS
  rw [va_n (show (20 : Nat) ≠ 18 by decide), va_n (show (20 : Nat) ≠ 14 by decide), va_n (show (20 : Nat) ≠ 17 by decide), va_n (show (20 : Nat) ≠ 13 by decide), va_n (show (20 : Nat) ≠ 16 by decide), va_n (show (20 : Nat) ≠ 12 by decide), va_n (show (20 : Nat) ≠ 15 by decide), va_n (show (20 : Nat) ≠ 11 by decide), va_n (show (20 : Nat) ≠ 25 by decide), va_n (show (20 : Nat) ≠ 9 by decide), va_n (show (20 : Nat) ≠ 24 by decide), va_n (show (20 : Nat) ≠ 21 by decide), va_n (show (20 : Nat) ≠ 23 by decide), va_s]
theorem mnS_23 {S : Nat → Nat → Int32} {r : k20} : mnS S r 23 = r.2.2.2.2.2.2.2.1 := by
  unfold mnS
  rw [va_n (show (23 : Nat) ≠ 18 by decide), va_n (show (23 : Nat) ≠ 14 by decide), va_n (show (23 : Nat) ≠ 17 by decide), va_n (show (23 : Nat) ≠ 13 by decide), va_n (show (23 : Nat) ≠ 16 by decide), va_n (show (23 : Nat) ≠ 12 by decide), va_n (show (23 : Nat) ≠ 15 by decide), va_n (show (23 : Nat) ≠ 11 by decide), va_n (show (23 : Nat) ≠ 25 by decide), va_n (show (23 : Nat) ≠ 9 by decide), va_n (show (23 : Nat) ≠ 24 by decide), va_n (show (23 : Nat) ≠ 21 by decide), va_s]
theorem mnS_21 {S : Nat → Nat → Int32} {r : k20} : mnS S r 21 = r.2.2.2.2.2.2.2.2.1 := by
  unfold mnS
  rw [va_n (show (21 : Nat) ≠ 18 by decide), va_n (show (21 : Nat) ≠ 14 by decide), va_n (show (21 : Nat) ≠ 17 by decide), va_n (show (21 : Nat) ≠ 13 by decide), va_n (show (21 : Nat) ≠ 16 by decide), va_n (show (21 : Nat) ≠ 12 by decide), va_n (show (21 : Nat) ≠ 15 by decide), va_n (show (21 : Nat) ≠ 11 by decide), va_n (show (21 : Nat) ≠ 25 by decide), va_n (show (21 : Nat) ≠ 9 by decide), va_n (show (21 : Nat) ≠ 24 by decide), va_s]
theorem mnS_24 {S : Nat → Nat → Int32} {r : k20} : mnS S r 24 = r.2.2.2.2.2.2.2.2.2.1 := by
  unfold mnS
  rw [va_n (show (24 : Nat) ≠ 18 by decide), va_n (show (24 : Nat) ≠ 14 by decide), va_n (show (24 : Nat) ≠ 17 by decide), va_n (show (24 : Nat) ≠ 13 by decide), va_n (show (24 : Nat) ≠ 16 by decide), va_n (show (24 : Nat) ≠ 12 by decide), va_n (show (24 : Nat) ≠ 15 by decide), va_n (show (24 : Nat) ≠ 11 by decide), va_n (show (24 : Nat) ≠ 25 by decide), va_n (show (24 : Nat) ≠ 9 by decide), va_s]
theorem mnS_9 {S : Nat → Nat → Int32} {r : k20} : mnS S r 9 = r.2.2.2.2.2.2.2.2.2.2.1 := by
  unfold mnS
  rw [va_n (show (9 : Nat) ≠ 18 by decide), va_n (show (9 : Nat) ≠ 14 by decide), va_n (show (9 : Nat) ≠ 17 by decide), va_n (show (9 : Nat) ≠ 13 by decide), va_n (show (9 : Nat) ≠ 16 by decide), va_n (show (9 : Nat) ≠ 12 by decide), va_n (show (9 : Nat) ≠ 15 by decide), va_n (show (9 : Nat) ≠ 11 by decide), va_n (show (9 : Nat) ≠ 25 by decide), va_s]
theorem mnS_25 {S : Nat → Nat → Int32} {r : k20} : mnS S r 25 = r.2.2.2.2.2.2.2.2.2.2.2.1 := by
  unfold mnS
  rw [va_n (show (25 : Nat) ≠ 18 by decide), va_n (show (25 : Nat) ≠ 14 by decide), va_n (show (25 : Nat) ≠ 17 by decide), va_n (show (25 : Nat) ≠ 13 by decide), va_n (show (25 : Nat) ≠ 16 by decide), va_n (show (25 : Nat) ≠ 12 by decide), va_n (show (25 : Nat) ≠ 15 by decide), va_n (show (25 : Nat) ≠ 11 by decide), va_s]
theorem mnS_11 {S : Nat → Nat → Int32} {r : k20} : mnS S r 11 = r.2.2.2.2.2.2.2.2.2.2.2.2.1 := by
  unfold mnS
  rw [va_n (show (11 : Nat) ≠ 18 by decide), va_n (show (11 : Nat) ≠ 14 by decide), va_n (show (11 : Nat) ≠ 17 by decide), va_n (show (11 : Nat) ≠ 13 by decide), va_n (show (11 : Nat) ≠ 16 by decide), va_n (show (11 : Nat) ≠ 12 by decide), va_n (show (11 : Nat) ≠ 15 by decide), va_s]
theorem mnS_15 {S : Nat → Nat → Int32} {r : k20} : mnS S r 15 = r.2.2.2.2.2.2.2.2.2.2.2.2.2.1 := by
  unfold mnS
  rw [va_n (show (15 : Nat) ≠ 18 by decide), va_n (show (15 : Nat) ≠ 14 by decide), va_n (show (15 : Nat) ≠ 17 by decide), va_n (show (15 : Nat) ≠ 13 by decide), va_n (show (15 : Nat) ≠ 16 by decide), va_n (show (15 : Nat) ≠ 12 by decide), va_s]
theorem mnS_12 {S : Nat → Nat → Int32} {r : k20} : mnS S r 12 = r.2.2.2.2.2.2.2.2.2.2.2.2.2.2.1 := by
  unfold mnS
  rw [va_n (show (12 : Nat) ≠ 18 by decide), va_n (show (12 : Nat) ≠ 14 by decide), va_n (show (12 : Nat) ≠ 17 by decide), va_n (show (12 : Nat) ≠ 13 by decide), va_n (show (12 : Nat) ≠ 16 by decide), va_s]
theorem mnS_16 {S : Nat → Nat → Int32} {r : k20} : mnS S r 16 = r.2.2.2.2.2.2.2.2.2.2.2.2.2.2.2.1 := by
  unfold mnS
  rw [va_n (show (16 : Nat) ≠ 18 by decide), va_n (show (16 : Nat) ≠ 14 by decide), va_n (show (16 : Nat) ≠ 17 by decide), va_n (show (16 : Nat) ≠ 13 by decide), va_s]
theorem mnS_13 {S : Nat → Nat → Int32} {r : k20} : mnS S r 13 = r.2.2.2.2.2.2.2.2.2.2.2.2.2.2.2.2.1 := by
  unfold mnS
  rw [va_n (show (13 : Nat) ≠ 18 by decide), va_n (show (13 : Nat) ≠ 14 by decide), va_n (show (13 : Nat) ≠ 17 by decide), va_s]
theorem mnS_17 {S : Nat → Nat → Int32} {r : k20} : mnS S r 17 = r.2.2.2.2.2.2.2.2.2.2.2.2.2.2.2.2.2.1 := by
  unfold mnS
  rw [va_n (show (17 : Nat) ≠ 18 by decide), va_n (show (17 : Nat) ≠ 14 by decide), va_s]
theorem mnS_14 {S : Nat → Nat → Int32} {r : k20} : mnS S r 14 = r.2.2.2.2.2.2.2.2.2.2.2.2.2.2.2.2.2.2.1 := by
  unfold mnS
  rw [va_n (show (14 : Nat) ≠ 18 by decide), va_s]
theorem mnS_18 {S : Nat → Nat → Int32} {r : k20} : mnS S r 18 = r.2.2.2.2.2.2.2.2.2.2.2.2.2.2.2.2.2.2.2 := by
  unfold mnS
  rw [va_s]
theorem mnS_lo {S : Nat → Nat → Int32} {r : k20} {a : Nat} (h : a ≠ 0 ∧ a ≠ 5 ∧ a ≠ 6 ∧ a ≠ 19 ∧ a ≠ 22 ∧ a ≠ 20 ∧ a ≠ 23 ∧ a ≠ 21 ∧ a ≠ 24 ∧ a ≠ 9 ∧ a ≠ 25 ∧ a ≠ 11 ∧ a ≠ 15 ∧ a ≠ 12 ∧ a ≠ 16 ∧ a ≠ 13 ∧ a ≠ 17 ∧ a ≠ 14 ∧ a ≠ 18) : mnS S r a = S a := by
  unfold mnS
  rw [va_n (show a ≠ 18 by omega), va_n (show a ≠ 14 by omega), va_n (show a ≠ 17 by omega), va_n (show a ≠ 13 by omega), va_n (show a ≠ 16 by omega), va_n (show a ≠ 12 by omega), va_n (show a ≠ 15 by omega), va_n (show a ≠ 11 by omega), va_n (show a ≠ 25 by omega), va_n (show a ≠ 9 by omega), va_n (show a ≠ 24 by omega), va_n (show a ≠ 21 by omega), va_n (show a ≠ 23 by omega), va_n (show a ≠ 20 by omega), va_n (show a ≠ 22 by omega), va_n (show a ≠ 19 by omega), va_n (show a ≠ 6 by omega), va_n (show a ≠ 5 by omega), va_n (show a ≠ 0 by omega)]
theorem aoS_6 {S : Nat → Nat → Int32} {j : Int64} : aoS S j 6 = (aoR S j).2.1 := by
  unfold aoS
  rw [va_n (show (6 : Nat) ≠ 24 by decide), va_n (show (6 : Nat) ≠ 21 by decide), va_n (show (6 : Nat) ≠ 23 by decide), va_n (show (6 : Nat) ≠ 20 by decide), va_n (show (6 : Nat) ≠ 22 by decide), va_n (show (6 : Nat) ≠ 19 by decide), va_s]
theorem aoS_19 {S : Nat → Nat → Int32} {j : Int64} : aoS S j 19 = (aoR S j).2.2.2.1 := by
  unfold aoS
  rw [va_n (show (19 : Nat) ≠ 24 by decide), va_n (show (19 : Nat) ≠ 21 by decide), va_n (show (19 : Nat) ≠ 23 by decide), va_n (show (19 : Nat) ≠ 20 by decide), va_n (show (19 : Nat) ≠ 22 by decide), va_s]
theorem aoS_22 {S : Nat → Nat → Int32} {j : Int64} : aoS S j 22 = (aoR S j).2.2.2.2.1 := by
  unfold aoS
  rw [va_n (show (22 : Nat) ≠ 24 by decide), va_n (show (22 : Nat) ≠ 21 by decide), va_n (show (22 : Nat) ≠ 23 by decide), va_n (show (22 : Nat) ≠ 20 by decide), va_s]
theorem aoS_20 {S : Nat → Nat → Int32} {j : Int64} : aoS S j 20 = (aoR S j).2.2.2.2.2.1 := by
  unfold aoS
  rw [va_n (show (20 : Nat) ≠ 24 by decide), va_n (show (20 : Nat) ≠ 21 by decide), va_n (show (20 : Nat) ≠ 23 by decide), va_s]
theorem aoS_23 {S : Nat → Nat → Int32} {j : Int64} : aoS S j 23 = (aoR S j).2.2.2.2.2.2.1 := by
  unfold aoS
  rw [va_n (show (23 : Nat) ≠ 24 by decide), va_n (show (23 : Nat) ≠ 21 by decide), va_s]
theorem aoS_21 {S : Nat → Nat → Int32} {j : Int64} : aoS S j 21 = (aoR S j).2.2.2.2.2.2.2.1 := by
  unfold aoS
  rw [va_n (show (21 : Nat) ≠ 24 by decide), va_s]
theorem aoS_24 {S : Nat → Nat → Int32} {j : Int64} : aoS S j 24 = (aoR S j).2.2.2.2.2.2.2.2 := by
  unfold aoS
  rw [va_s]
theorem aoS_lo {S : Nat → Nat → Int32} {j : Int64} {a : Nat} (h : a ≠ 6 ∧ (a < 19 ∨ a = 25)) : aoS S j a = S a := by
  unfold aoS
  rw [va_n (show a ≠ 24 by omega), va_n (show a ≠ 21 by omega), va_n (show a ≠ 23 by omega), va_n (show a ≠ 20 by omega), va_n (show a ≠ 22 by omega), va_n (show a ≠ 19 by omega), va_n (show a ≠ 6 by omega)]
theorem msS_5 {S : Nat → Nat → Int32} : msS S 5 = (s_X7_moveSetPoints (S 0) (S 5) (S 4) (S 10) (S 6)).1 := by
  unfold msS
  rw [va_n (show (5 : Nat) ≠ 6 by decide), va_s]
theorem msS_6 {S : Nat → Nat → Int32} : msS S 6 = (s_X7_moveSetPoints (S 0) (S 5) (S 4) (S 10) (S 6)).2 := by
  unfold msS
  rw [va_s]
theorem msS_lo {S : Nat → Nat → Int32} {a : Nat} (h : a ≠ 5 ∧ a ≠ 6) : msS S a = S a := by
  unfold msS
  rw [va_n (show a ≠ 6 by omega), va_n (show a ≠ 5 by omega)]
theorem histS_9 {S : Nat → Nat → Int32} : histS S 9 = (s_X3_add 60 (S 9) (S 25) (S 6 0)).1 := by
  unfold histS
  rw [va_n (show (9 : Nat) ≠ 25 by decide), va_s]
theorem histS_25 {S : Nat → Nat → Int32} : histS S 25 = (s_X3_add 60 (S 9) (S 25) (S 6 0)).2 := by
  unfold histS
  rw [va_s]
theorem cntS_6 {S : Nat → Nat → Int32} {p0 p1 : Int32} : cntS S p0 p1 6 = s_X1_count (S 6) p0 p1 := by
  unfold cntS
  rw [va_s]
theorem cntS_lo {S : Nat → Nat → Int32} {p0 p1 : Int32} {a : Nat} (h : a ≠ 6) : cntS S p0 p1 a = S a := by
  unfold cntS
  rw [va_n h]
def mnR (S : Nat → Nat → Int32) (j : Int64) : k20 := s_X7_letMinutePass (S 0) (S 5) (S 4) (S 10) (S 6) (S 1) (S 2) j (S 19) (S 22) (S 20) (S 23) (S 21) (S 24) (S 3) (S 9) (S 25) (S 11) (S 15) (S 12) (S 16) (S 13) (S 17) (S 14) (S 18)
/-- what the air does in a minute -/
theorem kRel.air {T : Int} {S : Nat → Nat → Int32} {j : Int64} {w : Nat → Int64} (h : kRel T S j w) (f : Nat → Int32) {o : Int64} {x : Int32} (ho : kE o x (-50) 50) : kE (if w 16 = 1 then 0 else s_X11_demand_p0_1 f w ((w 15 - w 13) - (-o * w 5) / 10)) (s_X7_moistureDemand (S 0) (S 6) (S 1) (S 3) ((-x * s_X10_at 12 (S 1) 5) / 10)) (-50) 50 ∧ kRel T (va_up S 6 (s_X1_change (S 6) (x + (s_X7_lost (S 0) (S 1) (S 6) (s_X10_at 12 (S 1) 9 - S 6 0))) ((((-x * s_X10_at 12 (S 1) 5) / 10) + (s_X7_moistureDemand (S 0) (S 6) (S 1) (S 3) ((-x * s_X10_at 12 (S 1) 5) / 10))) + (s_X7_lost (S 0) (S 1) (S 6) (s_X10_at 12 (S 1) 10 - S 6 1))))) j (vp_updL (vp_updL w 12 (s_X11_within ((w 12 + o) + ((w 9 - w 12) * (w 4 + 25 * w 16)) / 100) (-700) 2000)) 13 (s_X11_within (((w 13 + (-o * w 5) / 10) + (if w 16 = 1 then 0 else s_X11_demand_p0_1 f w ((w 15 - w 13) - (-o * w 5) / 10))) + ((w 10 - w 13) * (w 4 + 25 * w 16)) / 100) 0 1000)) := by
  have i5 : kE (w 5) (S 1 5) 0 20 := h.e 5 (by decide)
  have i4 : kE (w 4) (S 1 4) 0 20 := h.e 4 (by decide)
  have i9 : kE (w 9) (S 1 9) (-200) 500 := h.e 9 (by decide)
  have i10 : kE (w 10) (S 1 10) 0 1000 := h.e 10 (by decide)
  have i12 : kE (w 12) (S 6 0) (-700) 2000 := h.e 12 (by decide)
  have i13 : kE (w 13) (S 6 1) 0 1000 := h.e 13 (by decide)
  have i15 : kE (w 15) (S 6 3) 0 1000 := h.e 15 (by decide)
  have i16 : kE (w 16) (S 6 4) 0 1 := h.e 16 (by decide)
  have e10 : kE 10 10 10 10 := kE.lit (by decide) (by decide)
  have e100 : kE 100 100 100 100 := kE.lit (by decide) (by decide)
  have p5 : s_X10_at 12 (S 1) 5 = S 1 5 := at12 (S 1) (k := 5) (by decide) rfl
  have p4 : s_X10_at 12 (S 1) 4 = S 1 4 := at12 (S 1) (k := 4) (by decide) rfl
  have p9 : s_X10_at 12 (S 1) 9 = S 1 9 := at12 (S 1) (k := 9) (by decide) rfl
  have p10 : s_X10_at 12 (S 1) 10 = S 1 10 := at12 (S 1) (k := 10) (by decide) rfl
  have p2 : s_X10_at 12 (S 1) 2 = S 1 2 := at12 (S 1) (k := 2) (by decide) rfl
  have p3 : s_X10_at 12 (S 1) 3 = S 1 3 := at12 (S 1) (k := 3) (by decide) rfl
  have co : kE ((-o * w 5) / 10) ((-x * s_X10_at 12 (S 1) 5) / 10) (-1000) 1000 := by
    rw [p5]
    exact kE.div (kE.mul (ho.neg (by decide)) i5 (A := 50) (B := 20) (by decide) (by decide) (by decide) (by decide) (by decide)) e10 (by decide) (by decide) (by decide)
  have z16 : (w 16 = 1) = (¬ S 6 4 = 0) := by
    rw [kE.eqq i16 kE1]
    have b1 := i16.2.1
    have b2 := i16.2.2
    refine propext ⟨fun z y => ?_, fun z => ?_⟩
    · rw [y] at z
      exact absurd z (by decide)
    · have n0 : ¬ (S 6 4).toInt = 0 := fun y => z (Int32.toInt_inj.mp y)
      refine Int32.toInt_inj.mp ?_
      show (S 6 4).toInt = 1
      omega
  have mo : kE (if w 16 = 1 then 0 else s_X11_demand_p0_1 f w ((w 15 - w 13) - (-o * w 5) / 10)) (s_X7_moistureDemand (S 0) (S 6) (S 1) (S 3) ((-x * s_X10_at 12 (S 1) 5) / 10)) (-50) 50 := by
    unfold s_X7_moistureDemand s_X7_moistureDemand_1
    rw [p2, p3]
    by_cases c : S 6 4 = 0
    · rw [if_pos c, if_neg (pTx z16 c)]
      exact h.demand1 f (((i15.sub i13 (by decide) (by decide)).sub co (by decide) (by decide)).wk (by decide) (by decide))
    · rw [if_neg c, if_pos (pT z16 c)]
      exact kE0.wk (by decide) (by decide)
  have lk : kE (w 4 + 25 * w 16) (s_X10_at 12 (S 1) 4 + (if S 6 4 = 0 then 0 else 25)) 0 45 := by
    rw [p4]
    have q : kE (25 * w 16) (if S 6 4 = 0 then 0 else 25) 0 25 := by
      by_cases c : S 6 4 = 0
      · rw [if_pos c]
        have d : w 16 = 0 := by rw [i16.eq, c]; rfl
        rw [d]
        exact kE.bd (kE.lit (n := 0) (by decide) (by decide)) (by decide) (by decide)
      · rw [if_neg c]
        have d : w 16 = 1 := pT z16 c
        rw [d]
        exact kE.bd (kE.lit (n := 25) (by decide) (by decide)) (by decide) (by decide)
    exact (i4.add q (by decide) (by decide)).wk (by decide) (by decide)
  have lt : kE (((w 9 - w 12) * (w 4 + 25 * w 16)) / 100) (s_X7_lost (S 0) (S 1) (S 6) (s_X10_at 12 (S 1) 9 - S 6 0)) (-135000) 135000 := by
    unfold s_X7_lost s_X7_lost_1
    rw [p9]
    exact kE.div (kE.mul (i9.sub i12 (by decide) (by decide)) lk (A := 3000) (B := 45) (by decide) (by decide) (by decide) (by decide) (by decide)) e100 (by decide) (by decide) (by decide)
  have lh : kE (((w 10 - w 13) * (w 4 + 25 * w 16)) / 100) (s_X7_lost (S 0) (S 1) (S 6) (s_X10_at 12 (S 1) 10 - S 6 1)) (-135000) 135000 := by
    unfold s_X7_lost s_X7_lost_1
    rw [p10]
    exact kE.div (kE.mul (i10.sub i13 (by decide) (by decide)) lk (A := 3000) (B := 45) (by decide) (by decide) (by decide) (by decide) (by decide)) e100 (by decide) (by decide) (by decide)
  refine ⟨mo, ?_⟩
  generalize (if w 16 = 1 then 0 else s_X11_demand_p0_1 f w ((w 15 - w 13) - (-o * w 5) / 10)) = mm at mo ⊢
  generalize (s_X7_moistureDemand (S 0) (S 6) (S 1) (S 3) ((-x * s_X10_at 12 (S 1) 5) / 10)) = mc at mo ⊢
  generalize ((-x * s_X10_at 12 (S 1) 5) / 10) = cc at co ⊢
  generalize (-o * w 5) / 10 = cr at co ⊢
  generalize (s_X7_lost (S 0) (S 1) (S 6) (s_X10_at 12 (S 1) 9 - S 6 0)) = l1 at lt ⊢
  generalize (s_X7_lost (S 0) (S 1) (S 6) (s_X10_at 12 (S 1) 10 - S 6 1)) = l2 at lh ⊢
  generalize ((w 9 - w 12) * (w 4 + 25 * w 16)) / 100 = r1 at lt ⊢
  generalize ((w 10 - w 13) * (w 4 + 25 * w 16)) / 100 = r2 at lh ⊢
  have vt := kE.within (i12.add (ho.add lt (by decide) (by decide)) (by decide) (by decide)) (kE.lit (a := -700) (x := -700) (n := -700) (by decide) (by decide)) (kE.lit (a := 2000) (x := 2000) (n := 2000) (by decide) (by decide)) (by decide)
  have vh := kE.within (i13.add ((co.add mo (by decide) (by decide)).add lh (by decide) (by decide)) (by decide) (by decide)) (kE.lit (a := 0) (x := 0) (n := 0) (by decide) (by decide)) (kE.lit (a := 1000) (x := 1000) (n := 1000) (by decide) (by decide)) (by decide)
  rw [Int64.add_assoc (w 12) o, Int64.add_assoc (w 13) cr mm, Int64.add_assoc (w 13) (cr + mm) r2]
  unfold s_X1_change
  exact ((h.sel 6).set2 12 (by decide) (by decide) rfl vt (Int.le_refl _) (Int.le_refl _)).set2 13 (by decide) (by decide) rfl vh (Int.le_refl _) (Int.le_refl _)
theorem mnR_eq {S : Nat → Nat → Int32} {j : Int64} {r1 : (Nat → Int32) × (Nat → Int32)} {r2 : Int32 × (Nat → Int32) × Int64 × (Nat → Int32) × (Nat → Int32) × (Nat → Int32) × (Nat → Int32) × (Nat → Int32) × (Nat → Int32)} {mc l1 l2 : Int32} {CH cnt : Nat → Int32} {h9 : (Nat → Int32) × (Nat → Int32)} {r4 : k16} (h1 : s_X7_moveSetPoints (S 0) (S 5) (S 4) (S 10) (S 6) = r1) (h2 : s_X7_allowedOutput (S 0) r1.2 (S 1) (S 2) j (S 19) (S 22) (S 20) (S 23) (S 21) (S 24) = r2) (h3 : s_X7_moistureDemand (S 0) r2.2.1 (S 1) (S 3) (((-r2.1) * (s_X10_at 12 (S 1) 5)) / 10) = mc) (h4 : s_X7_lost (S 0) (S 1) r2.2.1 ((s_X10_at 12 (S 1) 9) - (r2.2.1 0)) = l1) (h5 : s_X7_lost (S 0) (S 1) r2.2.1 ((s_X10_at 12 (S 1) 10) - (r2.2.1 1)) = l2) (h6 : s_X1_change r2.2.1 (r2.1 + l1) (((((-r2.1) * (s_X10_at 12 (S 1) 5)) / 10) + mc) + l2) = CH) (h7 : s_X1_count CH r2.1 mc = cnt) (h8 : s_X3_add 60 (S 9) (S 25) (cnt 0) = h9) (h10 : s_X7_followProgram (S 0) r1.1 cnt (S 1) (S 4) (S 10) r2.2.2.1 r2.2.2.2.1 r2.2.2.2.2.1 r2.2.2.2.2.2.1 r2.2.2.2.2.2.2.1 r2.2.2.2.2.2.2.2.1 r2.2.2.2.2.2.2.2.2 (S 11) (S 15) (S 12) (S 16) (S 13) (S 17) (S 14) (S 18) = r4) : mnR S j = (upd (S 0) 0 (S 0 0 + 1), r4.1, cnt, r4.2.1, r4.2.2.1, r4.2.2.2.1, r4.2.2.2.2.1, r4.2.2.2.2.2.1, r4.2.2.2.2.2.2.1, r4.2.2.2.2.2.2.2.1, h9.1, h9.2, r4.2.2.2.2.2.2.2.2.1, r4.2.2.2.2.2.2.2.2.2.1, r4.2.2.2.2.2.2.2.2.2.2.1, r4.2.2.2.2.2.2.2.2.2.2.2.1, r4.2.2.2.2.2.2.2.2.2.2.2.2.1, r4.2.2.2.2.2.2.2.2.2.2.2.2.2.1, r4.2.2.2.2.2.2.2.2.2.2.2.2.2.2.1, r4.2.2.2.2.2.2.2.2.2.2.2.2.2.2.2) := by
  unfold mnR s_X7_letMinutePass
  rw [h1]
  unfold s_X7_letMinutePass_9
  rw [h2]
  unfold s_X7_letMinutePass_8
  rw [h3]
  unfold s_X7_letMinutePass_7
  rw [h4]
  unfold s_X7_letMinutePass_6
  rw [h5]
  unfold s_X7_letMinutePass_5
  rw [h6]
  unfold s_X7_letMinutePass_4
  rw [h7]
  unfold s_X7_letMinutePass_3
  rw [h8]
  unfold s_X7_letMinutePass_2
  rw [h10]
  unfold s_X7_letMinutePass_1
  rfl
set_option maxHeartbeats 1000000 in
theorem kRel.minute {T : Int} {S : Nat → Nat → Int32} {j : Int64} {w : Nat → Int64} (h : kRel T S j w) (hn : kRn 0 w) (hT : 0 ≤ T ∧ T ≤ 30000) (f : Nat → Int32) : kRel (T + 1) (mnS S (mnR S j)) (mnR S j).2.2.2.1 (s_X11_minute f w) ∧ kRn 0 (s_X11_minute f w) := by
  have h43u : (w 43).toInt ≤ 12 := (h.e 43 (by decide)).kinL.2
  have h35 : kInL (w 35) 0 11 := (h.e 35 (by decide)).kinL
  have hz : w 33 = 1 → ¬ s_X11_of_p0_2 f w = 0 := fun z => by
    obtain ⟨i, hi, hi35, hp1, hp2⟩ := hn.2 (Or.inl z)
    rw [of2_at (by omega) hi35]
    intro y
    have := (hp1 z).1
    rw [y] at this
    exact absurd this (by decide)
  obtain ⟨k1, n1⟩ := h.points hn f
  have fr1 := fr_X11_movePoints f w h35 hz
  unfold s_X11_minute
  generalize hw1 : s_X11_movePoints f w = w1 at k1 n1 fr1 ⊢
  unfold s_X11_minute_11
  obtain ⟨k2, ho⟩ := k1.output hT f
  have fr2 := fr_X11_output f w1 (k1.2.2.2.1.1.many (by decide))
  generalize hw2 : s_X11_output f w1 = O at k2 ho fr2 ⊢
  have fr : ∀ k : Nat, (k < 162 ∨ 234 ≤ k) ∧ k ≠ 46 ∧ k ≠ 47 ∧ k ≠ 29 ∧ k ≠ 30 ∧ k ≠ 39 ∧ k ≠ 14 ∧ k ≠ 15 → O.2 k = w k := fun k hk => (fr2 k ⟨hk.1, hk.2.1, hk.2.2.1, hk.2.2.2.1, hk.2.2.2.2.1⟩).trans (fr1 k hk.2.2.2.2.2)
  have a16 := fr 16 (by decide)
  have a13 := fr 13 (by decide)
  have a12 := fr 12 (by decide)
  have a5 := fr 5 (by decide)
  have a4 := fr 4 (by decide)
  have a9 := fr 9 (by decide)
  have a10 := fr 10 (by decide)
  have a15 := fr2 15 (by decide)
  unfold s_X11_minute_10 j_X11_minute_2 j_X11_minute_1 s_X11_minute_9 s_X11_minute_8 s_X11_minute_7
  rw [← a16, ← a13, ← a12, ← a5, ← a4, ← a9, ← a10, ← a15]
  have hU : aoR (msS S) j = s_X7_allowedOutput (S 0) (s_X7_moveSetPoints (S 0) (S 5) (S 4) (S 10) (S 6)).2 (S 1) (S 2) j (S 19) (S 22) (S 20) (S 23) (S 21) (S 24) := by
    unfold aoR
    rw [msS_6, msS_lo (show (0 : Nat) ≠ 5 ∧ (0 : Nat) ≠ 6 by decide), msS_lo (show (1 : Nat) ≠ 5 ∧ (1 : Nat) ≠ 6 by decide), msS_lo (show (2 : Nat) ≠ 5 ∧ (2 : Nat) ≠ 6 by decide), msS_lo (show (19 : Nat) ≠ 5 ∧ (19 : Nat) ≠ 6 by decide), msS_lo (show (22 : Nat) ≠ 5 ∧ (22 : Nat) ≠ 6 by decide), msS_lo (show (20 : Nat) ≠ 5 ∧ (20 : Nat) ≠ 6 by decide), msS_lo (show (23 : Nat) ≠ 5 ∧ (23 : Nat) ≠ 6 by decide), msS_lo (show (21 : Nat) ≠ 5 ∧ (21 : Nat) ≠ 6 by decide), msS_lo (show (24 : Nat) ≠ 5 ∧ (24 : Nat) ≠ 6 by decide)]
  have S2lo : ∀ a : Nat, a ≠ 5 ∧ a ≠ 6 ∧ (a < 19 ∨ a = 25) → aoS (msS S) j a = S a := fun a ha => by rw [aoS_lo ⟨ha.2.1, ha.2.2⟩, msS_lo ⟨ha.1, ha.2.1⟩]
  have S2_5 : aoS (msS S) j 5 = (s_X7_moveSetPoints (S 0) (S 5) (S 4) (S 10) (S 6)).1 := by rw [aoS_lo (by decide), msS_5]
  have S2_6 : aoS (msS S) j 6 = (aoR (msS S) j).2.1 := aoS_6
  have S2_19 : aoS (msS S) j 19 = (aoR (msS S) j).2.2.2.1 := aoS_19
  have S2_22 : aoS (msS S) j 22 = (aoR (msS S) j).2.2.2.2.1 := aoS_22
  have S2_20 : aoS (msS S) j 20 = (aoR (msS S) j).2.2.2.2.2.1 := aoS_20
  have S2_23 : aoS (msS S) j 23 = (aoR (msS S) j).2.2.2.2.2.2.1 := aoS_23
  have S2_21 : aoS (msS S) j 21 = (aoR (msS S) j).2.2.2.2.2.2.2.1 := aoS_21
  have S2_24 : aoS (msS S) j 24 = (aoR (msS S) j).2.2.2.2.2.2.2.2 := aoS_24
  generalize aoS (msS S) j = S2 at k2 S2lo S2_5 S2_6 S2_19 S2_22 S2_20 S2_23 S2_21 S2_24
  generalize aoR (msS S) j = r2 at k2 ho hU S2_6 S2_19 S2_22 S2_20 S2_23 S2_21 S2_24
  generalize hr1 : s_X7_moveSetPoints (S 0) (S 5) (S 4) (S 10) (S 6) = r1 at hU S2_5
  obtain ⟨mo, k3⟩ := k2.air f ho
  rw [S2_6, S2lo 0 (by decide), S2lo 1 (by decide), S2lo 3 (by decide)] at k3 mo
  generalize hmc : s_X7_moistureDemand (S 0) r2.2.1 (S 1) (S 3) ((-r2.1 * s_X10_at 12 (S 1) 5) / 10) = mc at k3 mo
  generalize hl1 : s_X7_lost (S 0) (S 1) r2.2.1 (s_X10_at 12 (S 1) 9 - r2.2.1 0) = l1 at k3
  generalize hl2 : s_X7_lost (S 0) (S 1) r2.2.1 (s_X10_at 12 (S 1) 10 - r2.2.1 1) = l2 at k3
  generalize hCH : s_X1_change r2.2.1 (r2.1 + l1) ((-r2.1 * s_X10_at 12 (S 1) 5) / 10 + mc + l2) = CH at k3
  generalize (if O.2 16 = 1 then 0 else s_X11_demand_p0_1 f O.2 (O.2 15 - O.2 13 - -O.1 * O.2 5 / 10)) = mm at mo k3 ⊢
  generalize hW3 : vp_updL (vp_updL O.2 12 _) 13 _ = W3 at k3 ⊢
  have fr3 : ∀ k : Nat, k ≠ 12 ∧ k ≠ 13 → W3 k = O.2 k := fun k hk => by rw [← hW3]; exact upnL hk.2 (upnL hk.1 rfl)
  clear hW3
  have bc : ∀ k : Nat, k = 25 ∨ k = 26 ∨ k = 27 ∨ k = 28 → (W3 k).toInt ≤ T + 1 - 1 := fun k hk => by
    rw [fr3 k (by omega), fr k (by omega)]
    rcases hk with rfl | rfl | rfl | rfl
    · have := (h.e 25 (by decide)).kinL.2; have e : rHi T 25 = T := rfl; omega
    · have := (h.e 26 (by decide)).kinL.2; have e : rHi T 26 = T := rfl; omega
    · have := (h.e 27 (by decide)).kinL.2; have e : rHi T 27 = T := rfl; omega
    · have := (h.e 28 (by decide)).kinL.2; have e : rHi T 28 = T := rfl; omega
  have b31 : (W3 31).toInt ≤ 100 * (T + 1 - 1) := by
    rw [fr3 31 (by decide), fr 31 (by decide)]
    have := (h.e 31 (by decide)).kinL.2
    have e : rHi T 31 = 100 * T := rfl
    omega
  have k4 := k3.count ⟨by omega, by omega⟩ f ho mo bc b31
  have fr4 := fr_X11_count f W3 O.1 mm (k3.2.2.2.2.1.many (by decide))
  generalize hW4 : s_X11_count f W3 O.1 mm = W4 at k4 fr4 ⊢
  have frw : ∀ k : Nat, (k = 33 ∨ k = 34 ∨ k = 35 ∨ k = 40 ∨ k = 41 ∨ k = 43 ∨ k = 32 ∨ (50 ≤ k ∧ k < 98)) → W4 k = w k := fun k hk => (fr4 k (by omega)).trans ((fr3 k (by omega)).trans (fr k (by omega)))
  have frw1 : ∀ k : Nat, (k = 33 ∨ k = 35 ∨ k = 39 ∨ k = 40 ∨ k = 41 ∨ k = 43 ∨ (50 ≤ k ∧ k < 98)) → W4 k = w1 k := fun k hk => (fr4 k (by omega)).trans ((fr3 k (by omega)).trans (fr2 k (by omega)))
  have gg : s_X11_goesOn f W4 = s_X11_goesOn f w := by
    unfold s_X11_goesOn s_X11_runs
    rw [frw 33 (by omega), frw 34 (by omega)]
  have n4 : kRn (if s_X11_goesOn f W4 = 0 then 0 else 1) W4 := by
    rw [gg]
    refine n1.cg (Int.le_refl _) (fun k hk => frw1 k (by omega)) ?_
    have : w1 43 = w 43 := fr1 43 (by decide)
    rw [this]
    exact h43u
  have S4g : ∀ a : Nat, a ≠ 6 ∧ a ≠ 9 ∧ a ≠ 25 → histS (cntS (va_up S2 6 CH) r2.1 mc) a = S2 a := fun a ha => by rw [histS_lo ha.2, cntS_lo ha.1, va_n ha.1]
  have F6 : histS (cntS (va_up S2 6 CH) r2.1 mc) 6 = s_X1_count CH r2.1 mc := by rw [histS_lo (by decide), cntS_6, va_s]
  have F9 : histS (cntS (va_up S2 6 CH) r2.1 mc) 9 = (s_X3_add 60 (S 9) (S 25) (s_X1_count CH r2.1 mc 0)).1 := by rw [histS_9, cntS_6, cntS_lo (show (9 : Nat) ≠ 6 by decide), cntS_lo (show (25 : Nat) ≠ 6 by decide), va_s, va_n (show (9 : Nat) ≠ 6 by decide), va_n (show (25 : Nat) ≠ 6 by decide), S2lo 9 (by decide), S2lo 25 (by decide)]
  have F25 : histS (cntS (va_up S2 6 CH) r2.1 mc) 25 = (s_X3_add 60 (S 9) (S 25) (s_X1_count CH r2.1 mc 0)).2 := by rw [histS_25, cntS_6, cntS_lo (show (9 : Nat) ≠ 6 by decide), cntS_lo (show (25 : Nat) ≠ 6 by decide), va_s, va_n (show (9 : Nat) ≠ 6 by decide), va_n (show (25 : Nat) ≠ 6 by decide), S2lo 9 (by decide), S2lo 25 (by decide)]
  generalize histS (cntS (va_up S2 6 CH) r2.1 mc) = S4 at k4 S4g F6 F9 F25
  generalize hcnt : s_X1_count CH r2.1 mc = cnt at F6 F9 F25
  generalize hh9 : s_X3_add 60 (S 9) (S 25) (cnt 0) = h9 at F9 F25
  have S4lo : ∀ a : Nat, a ≠ 5 ∧ a ≠ 6 ∧ a ≠ 9 ∧ a < 19 → S4 a = S a := fun a ha => (S4g a (by omega)).trans (S2lo a (by omega))
  have e5 : s_X7_followProgram (S 0) r1.1 cnt (S 1) (S 4) (S 10) r2.2.2.1 r2.2.2.2.1 r2.2.2.2.2.1 r2.2.2.2.2.2.1 r2.2.2.2.2.2.2.1 r2.2.2.2.2.2.2.2.1 r2.2.2.2.2.2.2.2.2 (S 11) (S 15) (S 12) (S 16) (S 13) (S 17) (S 14) (S 18) = fpR S4 r2.2.2.1 := by
    unfold fpR
    rw [F6, S4g 5 (by decide), S4g 19 (by decide), S4g 22 (by decide), S4g 20 (by decide), S4g 23 (by decide), S4g 21 (by decide), S4g 24 (by decide), S2_5, S2_19, S2_22, S2_20, S2_23, S2_21, S2_24, S4lo 0 (by decide), S4lo 1 (by decide), S4lo 4 (by decide), S4lo 10 (by decide), S4lo 11 (by decide), S4lo 15 (by decide), S4lo 12 (by decide), S4lo 16 (by decide), S4lo 13 (by decide), S4lo 17 (by decide), S4lo 14 (by decide), S4lo 18 (by decide)]
  have e32 : kE (w 32) (S 0 0) 0 T := h.e 32 (by decide)
  have e41 : kE (w 41) (S 5 6) 0 T := h.e 41 (by decide)
  unfold s_X11_minute_6
  obtain ⟨k5, n5⟩ := k4.follow (by omega) f n4 (by rw [frw 32 (by omega)]; have := e32.kinL.2; omega) (by rw [frw 41 (by omega)]; have := e41.kinL.2; omega)
  generalize hW5 : j_X11_minute_4 f W4 = W5 at k5 n5 ⊢
  rw [mnR_eq hr1 hU.symm hmc hl1 hl2 hCH hcnt hh9 e5]
  generalize fpR S4 r2.2.2.1 = r4 at k5
  have S5_0 : fpS S4 r4 0 = S 0 := (fpS_lo (by decide)).trans (S4lo 0 (by decide))
  have w32 : kE (W5 32) (S 0 0) 0 (T + 1) := by
    have q : kE (W5 32) (fpS S4 r4 0 0) 0 (T + 1) := k5.e 32 (by decide)
    rw [S5_0] at q
    exact q
  have w32b : kE (W5 32) (S 0 0) 0 T := ⟨w32.1, e32.2⟩
  have k5s := k5.sel 0
  rw [S5_0] at k5s
  have k6 := k5s.set2 32 (by decide) (by decide) rfl (w32b.add kE1 (by decide) (by omega)) (by decide) (Int.le_refl _)
  unfold s_X11_minute_5
  refine ⟨k6.cgA (fun a ha => ?_), n5.cg (Int.le_refl _) (fun k hk => upnL (by omega) rfl) ?_⟩
  · exact
      match a, ha with
      | 0, _ => mnS_0.trans va_s.symm
      | 1, _ => (mnS_lo (by decide)).trans ((S4lo 1 (by decide)).symm.trans ((fpS_lo (by decide)).symm.trans (va_n (show (1 : Nat) ≠ 0 by decide)).symm))
      | 2, _ => (mnS_lo (by decide)).trans ((S4lo 2 (by decide)).symm.trans ((fpS_lo (by decide)).symm.trans (va_n (show (2 : Nat) ≠ 0 by decide)).symm))
      | 3, _ => (mnS_lo (by decide)).trans ((S4lo 3 (by decide)).symm.trans ((fpS_lo (by decide)).symm.trans (va_n (show (3 : Nat) ≠ 0 by decide)).symm))
      | 4, _ => (mnS_lo (by decide)).trans ((S4lo 4 (by decide)).symm.trans ((fpS_lo (by decide)).symm.trans (va_n (show (4 : Nat) ≠ 0 by decide)).symm))
      | 5, _ => mnS_5.trans (fpS_5.symm.trans (va_n (show (5 : Nat) ≠ 0 by decide)).symm)
      | 6, _ => mnS_6.trans (F6.symm.trans ((fpS_lo (by decide)).symm.trans (va_n (show (6 : Nat) ≠ 0 by decide)).symm))
      | 7, _ => (mnS_lo (by decide)).trans ((S4lo 7 (by decide)).symm.trans ((fpS_lo (by decide)).symm.trans (va_n (show (7 : Nat) ≠ 0 by decide)).symm))
      | 8, _ => (mnS_lo (by decide)).trans ((S4lo 8 (by decide)).symm.trans ((fpS_lo (by decide)).symm.trans (va_n (show (8 : Nat) ≠ 0 by decide)).symm))
      | 9, _ => mnS_9.trans (F9.symm.trans ((fpS_lo (by decide)).symm.trans (va_n (show (9 : Nat) ≠ 0 by decide)).symm))
      | 10, _ => (mnS_lo (by decide)).trans ((S4lo 10 (by decide)).symm.trans ((fpS_lo (by decide)).symm.trans (va_n (show (10 : Nat) ≠ 0 by decide)).symm))
      | 11, _ => mnS_11.trans (fpS_11.symm.trans (va_n (show (11 : Nat) ≠ 0 by decide)).symm)
      | 12, _ => mnS_12.trans (fpS_12.symm.trans (va_n (show (12 : Nat) ≠ 0 by decide)).symm)
      | 13, _ => mnS_13.trans (fpS_13.symm.trans (va_n (show (13 : Nat) ≠ 0 by decide)).symm)
      | 14, _ => mnS_14.trans (fpS_14.symm.trans (va_n (show (14 : Nat) ≠ 0 by decide)).symm)
      | 15, _ => mnS_15.trans (fpS_15.symm.trans (va_n (show (15 : Nat) ≠ 0 by decide)).symm)
      | 16, _ => mnS_16.trans (fpS_16.symm.trans (va_n (show (16 : Nat) ≠ 0 by decide)).symm)
      | 17, _ => mnS_17.trans (fpS_17.symm.trans (va_n (show (17 : Nat) ≠ 0 by decide)).symm)
      | 18, _ => mnS_18.trans (fpS_18.symm.trans (va_n (show (18 : Nat) ≠ 0 by decide)).symm)
      | 19, _ => mnS_19.trans (fpS_19.symm.trans (va_n (show (19 : Nat) ≠ 0 by decide)).symm)
      | 20, _ => mnS_20.trans (fpS_20.symm.trans (va_n (show (20 : Nat) ≠ 0 by decide)).symm)
      | 21, _ => mnS_21.trans (fpS_21.symm.trans (va_n (show (21 : Nat) ≠ 0 by decide)).symm)
      | 22, _ => mnS_22.trans (fpS_22.symm.trans (va_n (show (22 : Nat) ≠ 0 by decide)).symm)
      | 23, _ => mnS_23.trans (fpS_23.symm.trans (va_n (show (23 : Nat) ≠ 0 by decide)).symm)
      | 24, _ => mnS_24.trans (fpS_24.symm.trans (va_n (show (24 : Nat) ≠ 0 by decide)).symm)
      | 25, _ => mnS_25.trans (F25.symm.trans ((fpS_lo (by decide)).symm.trans (va_n (show (25 : Nat) ≠ 0 by decide)).symm))
      | n + 26, h => absurd h (by omega)
  · exact (k5.e 43 (by decide)).kinL.2
