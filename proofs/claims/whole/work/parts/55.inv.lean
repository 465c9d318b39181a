/-! what the reference's row keeps from minute to minute -/
def kP (w : Nat → Int64) : Prop := ∀ f : Nat → Int32, kMI f w
def kP4 (w : Nat → Int64) : Prop := kInL (w 43) 0 12 ∧ kInL (w 45) 0 16 ∧ kInL (w 46) 0 24 ∧ kInL (w 48) 0 60
theorem kP.c {w : Nat → Int64} (h : kP w) : kInL (w 35) 0 11 ∧ kP4 w := ⟨(h (fun _ => 0)).1, (h (fun _ => 0)).2.1, (h (fun _ => 0)).2.2.1, (h (fun _ => 0)).2.2.2.1, (h (fun _ => 0)).2.2.2.2.1⟩
theorem kP.mk {v : Nat → Int64} (h35 : kInL (v 35) 0 11) (h : kP4 v) (hz : v 33 = 1 → ∀ f : Nat → Int32, ¬ s_X11_of_p0_2 f v = 0) : kP v := fun f => ⟨h35, h.1, h.2.1, h.2.2.1, h.2.2.2, fun z => hz z f⟩
theorem kP.of {w v : Nat → Int64} (h : kP w) (e : ∀ k : Nat, (k = 33 ∨ k = 35 ∨ k = 43 ∨ (50 ≤ k ∧ k < 98)) → v k = w k) (h45 : kInL (v 45) 0 16) (h46 : kInL (v 46) 0 24) (h48 : kInL (v 48) 0 60) : kP v := by
  have c := h.c
  refine kP.mk (by rw [e 35 (by omega)]; exact c.1) ⟨by rw [e 43 (by omega)]; exact c.2.1, h45, h46, h48⟩ (fun z f => ?_)
  rw [of2_fr (f := f) (g := f) c.1 (fun k hk => e k (by omega))]
  exact (h f).2.2.2.2.2 (by rw [← e 33 (by omega)]; exact z)
theorem kP.n {w v : Nat → Int64} (h : kP w) (e : ∀ k : Nat, (k = 33 ∨ k = 35 ∨ k = 43 ∨ k = 45 ∨ k = 46 ∨ k = 48 ∨ (50 ≤ k ∧ k < 98)) → v k = w k) : kP v :=
  h.of (fun k hk => e k (by omega)) (by rw [e 45 (by omega)]; exact h.c.2.2.1) (by rw [e 46 (by omega)]; exact h.c.2.2.2.1) (by rw [e 48 (by omega)]; exact h.c.2.2.2.2)
/-- with a phase that isn't the ramp's -/
theorem kP.idle {w v : Nat → Int64} (h : kP w) (h33 : ¬ v 33 = 1) (e : ∀ k : Nat, (k = 35 ∨ k = 43 ∨ k = 45 ∨ k = 46 ∨ k = 48) → v k = w k) : kP v := by
  have c := h.c
  exact kP.mk (by rw [e 35 (by omega)]; exact c.1) ⟨by rw [e 43 (by omega)]; exact c.2.1, by rw [e 45 (by omega)]; exact c.2.2.1, by rw [e 46 (by omega)]; exact c.2.2.2.1, by rw [e 48 (by omega)]; exact c.2.2.2.2⟩ (fun z => absurd z h33)
theorem kP.enter {w : Nat → Int64} (h : kP w) (f : Nat → Int32) (a : Int32) (b : Int64) : kP (s_X11_enter f w a b) := by
  have c := h.c
  have fr := fr_X11_enter f w a b c.2.2.2.1
  exact h.of (fun k hk => fr k (by omega)) (by rw [fr 45 (by omega)]; exact c.2.2.1) (po_X11_enter f w a b c.2.2.2.1) (by rw [fr 48 (by omega)]; exact c.2.2.2.2)
theorem kP4.begin {w : Nat → Int64} (h : kP4 w) (f : Nat → Int32) {a b : Int64} (ha : kInL a 0 11) : kP (s_X11_begin f w a b) := by
  unfold s_X11_begin s_X11_begin_3 s_X11_begin_2 s_X11_begin_1
  refine kP.enter ?_ f 2 a
  generalize hW : (vp_updL (vp_updL (vp_updL (vp_updL (vp_updL (vp_updL (vp_updL w 35 a) 37 (w 12)) 38 (w 13)) 39 0) 40 0) 41 0) 42 b) = W
  have fr : ∀ k : Nat, k ≠ 35 ∧ k ≠ 37 ∧ k ≠ 38 ∧ k ≠ 39 ∧ k ≠ 40 ∧ k ≠ 41 ∧ k ≠ 42 → W k = w k := by
    intro k hk
    rw [← hW]
    exact upnL hk.2.2.2.2.2.2 (upnL hk.2.2.2.2.2.1 (upnL hk.2.2.2.2.1 (upnL hk.2.2.2.1 (upnL hk.2.2.1 (upnL hk.2.1 (upnL hk.1 rfl))))))
  have h35 : W 35 = a := by
    rw [← hW]
    exact upnL (by decide) (upnL (by decide) (upnL (by decide) (upnL (by decide) (upnL (by decide) (upnL (by decide) upsL)))))
  have hW35 : kInL (W 35) 0 11 := by rw [h35]; exact ha
  have e43 := fr 43 (by omega)
  have e45 := fr 45 (by omega)
  have e46 := fr 46 (by omega)
  have e48 := fr 48 (by omega)
  have g : ∀ (x : Int64) (k : Nat), k ≠ 33 → vp_updL W 33 x k = W k := fun x k hk => upnL hk rfl
  refine kP.mk (by rw [g _ 35 (by decide)]; exact hW35) ⟨by rw [g _ 43 (by decide), e43]; exact h.1, by rw [g _ 45 (by decide), e45]; exact h.2.1, by rw [g _ 46 (by decide), e46]; exact h.2.2.1, by rw [g _ 48 (by decide), e48]; exact h.2.2.2⟩ (fun z f2 => ?_)
  rw [of2_fr (f := f) (g := f2) hW35 (fun k hk => g _ k (by omega))]
  rw [upsL] at z
  intro q
  rw [q, if_pos (by decide)] at z
  exact absurd z (by decide)
theorem kP.keepResult {w : Nat → Int64} (h : kP w) (f : Nat → Int32) : kP (s_X11_keepResult f w) := by
  have c := h.c
  have fr := fr_X11_keepResult f w c.2.2.1
  refine h.of (fun k hk => fr k (by omega)) ?_ (by rw [fr 46 (by omega)]; exact c.2.2.2.1) (by rw [fr 48 (by omega)]; exact c.2.2.2.2)
  unfold s_X11_keepResult s_X11_keepResult_3
  rw [upsL]
  exact (kInL.add (kr_pre45 c.2.2.1) (kInL.lit (x := 1) (n := 1) (by decide)) (by decide) (by decide)).wk (by decide) (by decide)
theorem kP.complete {w : Nat → Int64} (h : kP w) (f : Nat → Int32) : kP (s_X11_complete f w) := by
  have c := h.c
  unfold s_X11_complete s_X11_complete_5 s_X11_complete_4 s_X11_complete_1 s_X11_complete_2 s_X11_complete_3
  have h2 : kP (s_X11_enter f (s_X11_keepResult f w) 3 (w 41)) := (h.keepResult f).enter f 3 _
  generalize s_X11_enter f (s_X11_keepResult f w) 3 (w 41) = u at h2
  by_cases h1 : w 43 ≤ w 35 + 1
  · rw [if_pos h1]
    by_cases h3 : w 44 ≤ w 36
    · rw [if_pos h3]
      refine kP.enter (h2.idle (by rw [upnL (by decide) upsL]; decide) (fun k hk => ?_)) f 4 _
      exact upnL (by omega) (upnL (by omega) rfl)
    · rw [if_neg h3]
      refine kP4.begin ?_ f ⟨by decide, by decide⟩
      have c2 := h2.c.2
      exact ⟨by rw [upnL (by decide) rfl]; exact c2.1, by rw [upnL (by decide) rfl]; exact c2.2.1, by rw [upnL (by decide) rfl]; exact c2.2.2.1, by rw [upnL (by decide) rfl]; exact c2.2.2.2⟩
  · rw [if_neg h1]
    refine kP4.begin h2.c.2 f ?_
    have a1 := kInL.add c.1 (kInL.lit (x := 1) (n := 1) (by decide)) (by decide) (by decide)
    have a2 := Int64.lt_iff_toInt_lt.mp (kLnle h1)
    exact ⟨by have := a1.1; omega, by have := c.2.1.2; omega⟩
theorem kP.goOn {w : Nat → Int64} (h : kP w) (f : Nat → Int32) : kP (s_X11_goOn f w) := by
  unfold s_X11_goOn s_X11_goOn_4 s_X11_goOn_1 s_X11_goOn_2 s_X11_goOn_3
  have i2 : kP (vp_updL w 33 2) := h.idle (by rw [upsL]; decide) (fun k hk => upnL (by omega) rfl)
  by_cases h1 : w 33 = 1
  · rw [if_pos h1]
    split
    · split
      · exact i2.complete f
      · exact i2
    · exact h
  · rw [if_neg h1]
    have hx : kP (if (s_X11_isWithin f w) = 0 then (vp_updL w 41 ((w 41) + 1)) else (vp_updL w 40 ((w 40) + 1))) := by
      split
      · exact h.n (fun k hk => upnL (by omega) rfl)
      · exact h.n (fun k hk => upnL (by omega) rfl)
    generalize (if (s_X11_isWithin f w) = 0 then (vp_updL w 41 ((w 41) + 1)) else (vp_updL w 40 ((w 40) + 1))) = x at hx
    split
    · exact hx.complete f
    · split
      · exact hx
      · refine kP.enter (hx.idle (by rw [upnL (by decide) upsL]; decide) (fun k hk => ?_)) f 5 _
        exact upnL (by omega) (upnL (by omega) rfl)
theorem kP.count {w : Nat → Int64} (h : kP w) (f : Nat → Int32) (a b : Int64) : kP (s_X11_count f w a b) := by
  have c := h.c
  have fr := fr_X11_count f w a b c.2.2.2.2
  refine h.of (fun k hk => fr k (by omega)) (by rw [fr 45 (by omega)]; exact c.2.2.1) (by rw [fr 46 (by omega)]; exact c.2.2.2.1) ?_
  unfold s_X11_count s_X11_count_9 s_X11_count_8 s_X11_count_7 s_X11_count_6 s_X11_count_5 s_X11_count_4 s_X11_count_3
  rw [upsL]
  exact (kInL.add (cn_pre48 _ _ _ _ _ _ a b c.2.2.2.2) (kInL.lit (x := 1) (n := 1) (by decide)) (by decide) (by decide)).wk (by decide) (by decide)
theorem kP.u32 {w : Nat → Int64} (h : kP w) (x : Int64) : kP (vp_updL w 32 x) := h.n (fun k hk => upnL (by omega) rfl)
theorem kP.minute {w : Nat → Int64} (h : kP w) (f : Nat → Int32) : kP (s_X11_minute f w) := by
  unfold s_X11_minute s_X11_minute_11 s_X11_minute_10 s_X11_minute_9 s_X11_minute_8 s_X11_minute_7 s_X11_minute_6 s_X11_minute_5 j_X11_minute_4 j_X11_minute_3
  have h1 : kP (s_X11_movePoints f w) := h.n (fun k hk => fr_X11_movePoints f w h.c.1 (h f).2.2.2.2.2 k (by omega))
  generalize s_X11_movePoints f w = u1 at h1
  have c1 := h1.c
  have fr := fr_X11_output f u1 c1.2.2.2.1
  have h2 : kP (s_X11_output f u1).2 := h1.of (fun k hk => fr k (by omega)) (by rw [fr 45 (by omega)]; exact c1.2.2.1) (po_X11_output f u1 c1.2.2.2.1) (by rw [fr 48 (by omega)]; exact c1.2.2.2.2)
  generalize s_X11_output f u1 = o at h2
  refine kP.u32 ?_ _
  have h3 : ∀ x y : Int64, kP (vp_updL (vp_updL o.2 12 x) 13 y) := fun x y => h2.n (fun k hk => upnL (by omega) (upnL (by omega) rfl))
  have h4 := fun (x y a b : Int64) => (h3 x y).count f a b
  split
  · exact h4 _ _ _ _
  · exact (h4 _ _ _ _).goOn f
