/-! frames of movePoints, count; what a minute's steps leave -/
theorem fr_X11_movePoints (f_t : Nat → Int32) (w : Nat → Int64) (_hf : kInL (w 35) 0 11) (_hz : w 33 = 1 → ¬ s_X11_of_p0_2 f_t w = 0) : ∀ k : Nat, (k ≠ 39 ∧ k ≠ 14 ∧ k ≠ 15) → s_X11_movePoints f_t w k = w k := by
  intro k hk
  unfold s_X11_movePoints
  by_cases h : s_X11_goesOn f_t w = 0
  · rw [if_pos h]
  · rw [if_neg h]
    unfold s_X11_movePoints_9 s_X11_movePoints_8 s_X11_movePoints_7 s_X11_movePoints_6
    exact upnL hk.2.2 (upnL hk.2.1 (upnL hk.1 rfl))
theorem cn_shift (w : Nat → Int64) (k : Nat) : (kLoop default (b_X11_count_L186) ((Int32.toInt 59 - Int32.toInt 0).toNat + 1) (0, w)).2 k = if 234 ≤ k ∧ k < 234 + 59 then w (k + 1) else w k := by
  have e : (Int32.toInt 59 - Int32.toInt 0).toNat + 1 = 59 + 1 := by decide
  rw [e]
  refine kShift 234 1 59 w b_X11_count_L186 (fun z => ?_) (by omega) (by omega) default k
  unfold b_X11_count_L186
  rw [show (59 : Int32) = nI 59 from rfl, show (234 : Int32) = nI 234 from rfl, show (1 : Int32) = nI 1 from rfl]
def cn_v (w : Nat → Int64) (x2 x4 x6 x8 x10 x12 p0 p1 : Int64) : Nat → Int64 := (vp_updL (vp_updL (vp_updL (vp_updL (vp_updL (vp_updL (vp_updL w 23 x2) 24 x4) 25 ((w 25) + x6)) 26 ((w 26) + x8)) 27 ((w 27) + x10)) 28 ((w 28) + x12)) 31 ((w 31) + ((s_X11_size p0) + (s_X11_size p1))))
theorem cn_vk (w : Nat → Int64) (x2 x4 x6 x8 x10 x12 p0 p1 : Int64) (k : Nat) (h : k ≠ 23 ∧ k ≠ 24 ∧ k ≠ 25 ∧ k ≠ 26 ∧ k ≠ 27 ∧ k ≠ 28 ∧ k ≠ 31) : cn_v w x2 x4 x6 x8 x10 x12 p0 p1 k = w k := by
  unfold cn_v
  exact upnL (by omega) (upnL (by omega) (upnL (by omega) (upnL (by omega) (upnL (by omega) (upnL (by omega) (upnL (by omega) rfl))))))
theorem cn_pre (w : Nat → Int64) (x2 x4 x6 x8 x10 x12 p0 p1 : Int64) (k : Nat) : j_X11_count_2 w x2 x4 x6 x8 x10 x12 p0 p1 k = if w 48 = 60 then (if k = 48 then w 48 - 1 else if 234 ≤ k ∧ k < 234 + 59 then w (k + 1) else cn_v w x2 x4 x6 x8 x10 x12 p0 p1 k) else cn_v w x2 x4 x6 x8 x10 x12 p0 p1 k := by
  unfold j_X11_count_2
  by_cases h : w 48 = 60
  · rw [if_pos h, if_pos h]
    unfold j_X11_count_1
    show vp_updL (kLoop default b_X11_count_L186 _ (0, cn_v w x2 x4 x6 x8 x10 x12 p0 p1)).2 48 _ k = _
    unfold vp_updL
    by_cases hk : k = 48
    · rw [if_pos hk, if_pos hk, cn_shift, if_neg (by omega)]; rfl
    · rw [if_neg hk, if_neg hk, cn_shift]
      by_cases h2 : 234 ≤ k ∧ k < 234 + 59
      · rw [if_pos h2, if_pos h2, cn_vk _ _ _ _ _ _ _ _ _ _ (by omega)]
      · rw [if_neg h2, if_neg h2]
  · rw [if_neg h, if_neg h]; rfl
theorem cn_pre48 {w : Nat → Int64} (x2 x4 x6 x8 x10 x12 p0 p1 : Int64) (h : kInL (w 48) 0 60) : kInL (j_X11_count_2 w x2 x4 x6 x8 x10 x12 p0 p1 48) 0 59 := by
  rw [cn_pre]
  by_cases hc : w 48 = 60
  · rw [if_pos hc, if_pos rfl]
    exact (kInL.sub (kInL.eq (n := 60) hc (by decide)) (kInL.lit (x := 1) (n := 1) (by decide)) (by decide) (by decide)).wk (by decide) (by decide)
  · rw [if_neg hc, cn_vk _ _ _ _ _ _ _ _ _ _ (by decide)]
    exact (kInL.neHi h hc (by decide)).wk (by decide) (by decide)
theorem cn_at {x : Nat → Int64} (h : kInL (x 48) 0 59) : kIn (234 + (Int64.toInt32 (x 48))) 234 293 :=
  (kIn.add (kIn.lit (x := 234) (n := 234) (by decide)) (kIn.l2i h (by decide) (by decide)) (by decide) (by decide)).wk (by decide) (by decide)
theorem fr_X11_count (f_t : Nat → Int32) (w : Nat → Int64) (p0 p1 : Int64) (hf : kInL (w 48) 0 60) : ∀ k : Nat, ((k < 234 ∨ 294 ≤ k) ∧ k ≠ 23 ∧ k ≠ 24 ∧ k ≠ 25 ∧ k ≠ 26 ∧ k ≠ 27 ∧ k ≠ 28 ∧ k ≠ 31 ∧ k ≠ 48) → s_X11_count f_t w p0 p1 k = w k := by
  intro k hk
  unfold s_X11_count s_X11_count_9 s_X11_count_8 s_X11_count_7 s_X11_count_6 s_X11_count_5 s_X11_count_4 s_X11_count_3
  generalize (if p0 ≤ 0 then (s_X11_within ((w 23) + 1) 0 1000) else 0) = x2
  generalize (if 0 ≤ p0 then (s_X11_within ((w 24) + 1) 0 1000) else 0) = x4
  generalize (if p0 ≤ 0 then (0 : Int64) else 1) = x6
  generalize (if 0 ≤ p0 then (0 : Int64) else 1) = x8
  generalize (if p1 ≤ 0 then (0 : Int64) else 1) = x10
  generalize (if 0 ≤ p1 then (0 : Int64) else 1) = x12
  have hx := cn_pre48 x2 x4 x6 x8 x10 x12 p0 p1 hf
  have hp : j_X11_count_2 w x2 x4 x6 x8 x10 x12 p0 p1 k = w k := by
    rw [cn_pre, cn_vk _ _ _ _ _ _ _ _ _ _ (by omega)]
    by_cases hc : w 48 = 60
    · rw [if_pos hc, if_neg (by omega), if_neg (by omega)]
    · rw [if_neg hc]
  generalize j_X11_count_2 w x2 x4 x6 x8 x10 x12 p0 p1 = x at hx hp
  exact upnL (by omega) (upnL ((cn_at hx).ne (by decide) (by omega)) hp)
