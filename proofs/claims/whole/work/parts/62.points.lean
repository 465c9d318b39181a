/-! the set points -/
def kSg (w : Nat → Int64) : Prop := ∀ i : Nat, (i : Int) < (w 43).toInt → 0 < (w (50 + 4 * i + 2)).toInt + (w (50 + 4 * i + 3)).toInt
/-- what a running program keeps between two minutes; E: behind the set points' step the ramp clock may have come to its end -/
def kRn (E : Int) (w : Nat → Int64) : Prop := kSg w ∧ ((w 33 = 1 ∨ w 33 = 2) → ∃ i : Nat, (i : Int) < (w 43).toInt ∧ w 35 = (nI i).toInt64 ∧ (w 33 = 1 → 0 < (w (50 + 4 * i + 2)).toInt ∧ (w 39).toInt < (w (50 + 4 * i + 2)).toInt + E ∧ w 40 = 0 ∧ w 41 = 0) ∧ (w 33 = 2 → (w 40).toInt < (w (50 + 4 * i + 3)).toInt))
theorem kRn.cg {E F : Int} {w v : Nat → Int64} (h : kRn E w) (hEF : E ≤ F) (e : ∀ k : Nat, (k = 33 ∨ k = 35 ∨ k = 39 ∨ k = 40 ∨ k = 41 ∨ k = 43 ∨ 50 ≤ k ∧ k < 98) → v k = w k) (h43 : (w 43).toInt ≤ 12) : kRn F v := by
  refine ⟨fun i hi => ?_, fun hr => ?_⟩
  · rw [e 43 (by omega)] at hi
    rw [e _ (by omega), e _ (by omega)]
    exact h.1 i hi
  · rw [e 33 (by omega)] at hr
    obtain ⟨i, h1, h2, h3, h4⟩ := h.2 hr
    refine ⟨i, by rw [e 43 (by omega)]; exact h1, by rw [e 35 (by omega)]; exact h2, fun z => ?_, fun z => ?_⟩
    · rw [e 33 (by omega)] at z
      rw [e 39 (by omega), e 40 (by omega), e 41 (by omega), e _ (by omega)]
      have := h3 z
      exact ⟨this.1, by have := this.2.1; omega, this.2.2⟩
    · rw [e 33 (by omega)] at z
      rw [e 40 (by omega), e _ (by omega)]
      exact h4 z
theorem kRampI {s t r m L H : Int} (hs : L ≤ s ∧ s ≤ H) (ht : L ≤ t ∧ t ≤ H) (hr : 0 ≤ r) (hrm : r ≤ m) (hm : 0 < m) : L ≤ s + ((t - s) * r).tdiv m ∧ s + ((t - s) * r).tdiv m ≤ H := by
  have A : ∀ d : Int, 0 ≤ d → 0 ≤ (d * r).tdiv m ∧ (d * r).tdiv m ≤ d := fun d hd => ⟨Int.tdiv_nonneg (Int.mul_nonneg hd hr) (by omega), by
    rw [Int.tdiv_eq_ediv_of_nonneg (Int.mul_nonneg hd hr)]
    exact Int.ediv_le_of_le_mul hm (Int.mul_le_mul_of_nonneg_left hrm hd)⟩
  by_cases c : s ≤ t
  · have := A (t - s) (by omega)
    omega
  · have a := A (s - t) (by omega)
    have e : (t - s) * r = -((s - t) * r) := by rw [← Int.neg_mul]; congr 1; omega
    rw [e, Int.neg_tdiv]
    omega
theorem kE.ramp {s t r m : Int64} {ss tt rr mm : Int32} {sl sh tl th L H : Int} (hs : kE s ss sl sh) (ht : kE t tt tl th) (hr : kE r rr 0 500) (hm : kE m mm 1 500) (hrm : rr.toInt ≤ mm.toInt) (h1 : L ≤ sl ∧ sh ≤ H) (h2 : L ≤ tl ∧ th ≤ H) (h3 : -2000 ≤ L ∧ H ≤ 2000) : kE (s + ((t - s) * r) / m) (ss + ((tt - ss) * rr) / mm) L H := by
  have d := ht.sub hs (by omega) (by omega)
  have p := kE.mul d hr (A := 4000) (B := 500) (by omega) (by omega) (by omega) (by omega) (by decide)
  have q := kE.div p hm (A := 2000000) (by decide) (by decide) (by decide)
  have a := hs.add q (by omega) (by omega)
  have i := kRampI (s := ss.toInt) (t := tt.toInt) (r := rr.toInt) (m := mm.toInt) (L := L) (H := H) ⟨by have := hs.2.1; omega, by have := hs.2.2; omega⟩ ⟨by have := ht.2.1; omega, by have := ht.2.2; omega⟩ hr.2.1 hrm (by have := hm.2.1; omega)
  have v : (ss + ((tt - ss) * rr) / mm).toInt = ss.toInt + ((tt.toInt - ss.toInt) * rr.toInt).tdiv mm.toInt := by
    have e1 : (tt - ss).toInt = tt.toInt - ss.toInt := by
      obtain ⟨_, x1, x2⟩ := hs
      obtain ⟨_, y1, y2⟩ := ht
      rw [Int32.toInt_sub, kn_bmod (by omega) (by omega)]
    have e2 : ((tt - ss) * rr).toInt = (tt.toInt - ss.toInt) * rr.toInt := by
      have m2 := kAbsMul (x := (tt - ss).toInt) (y := rr.toInt) (A := 4000) (B := 500) (by have := d.2.1; omega) (by have := d.2.2; omega) (by have := hr.2.1; omega) (by have := hr.2.2; omega)
      rw [Int32.toInt_mul, kn_bmod (by omega) (by omega), e1]
    have e3 : (((tt - ss) * rr) / mm).toInt = ((tt.toInt - ss.toInt) * rr.toInt).tdiv mm.toInt := by
      have m2 := kTdiv (x := ((tt - ss) * rr).toInt) (y := mm.toInt) (A := 2000000) (by have := p.2.1; omega) (by have := p.2.2; omega)
      rw [Int32.toInt_div, kn_bmod (by omega) (by omega), e2]
    rw [Int32.toInt_add, e3, kn_bmod (by omega) (by omega)]
  exact a.bd (by rw [v]; exact i.1) (by rw [v]; exact i.2)
theorem kRel.runs {T : Int} {S : Nat → Nat → Int32} {j : Int64} {w : Nat → Int64} (h : kRel T S j w) (f : Nat → Int32) : s_X11_runs f w = s_X4_isRunning (S 5) := by
  have e1 : (w 33 = 1) = (S 5 0 = 1) := kE.eqq (h.e 33 (by decide)) kE1
  have e2 : (w 33 = 2) = (S 5 0 = 2) := kE.eqq (h.e 33 (by decide)) (kE.lit (a := 2) (x := 2) (n := 2) (by decide) (by decide))
  unfold s_X11_runs s_X4_isRunning
  rw [kItes e1, kItes e2]
theorem kRel.goes {T : Int} {S : Nat → Nat → Int32} {j : Int64} {w : Nat → Int64} (h : kRel T S j w) (f : Nat → Int32) : s_X11_goesOn f w = s_X4_goesOn (S 5) := by
  have e1 : (w 34 = 0) = (S 5 1 = 0) := kE.eqq (h.e 34 (by decide)) kE0
  unfold s_X11_goesOn s_X4_goesOn
  rw [h.runs f, kItes e1]
theorem goes_run {f : Nat → Int32} {w : Nat → Int64} (h : ¬ s_X11_goesOn f w = 0) : (w 33 = 1 ∨ w 33 = 2) ∧ w 34 = 0 := by
  unfold s_X11_goesOn s_X11_runs at h
  by_cases c1 : w 33 = 1
  · refine ⟨Or.inl c1, ?_⟩
    rw [if_pos c1, if_neg (by decide)] at h
    by_cases c : w 34 = 0
    · exact c
    · exact absurd (if_neg c) h
  · by_cases c2 : w 33 = 2
    · refine ⟨Or.inr c2, ?_⟩
      rw [if_neg c1, if_pos c2, if_neg (by decide)] at h
      by_cases c : w 34 = 0
      · exact c
      · exact absurd (if_neg c) h
    · rw [if_neg c1, if_neg c2, if_pos rfl] at h
      exact absurd rfl h
def msS (S : Nat → Nat → Int32) : Nat → Nat → Int32 := va_up (va_up S 5 (s_X7_moveSetPoints (S 0) (S 5) (S 4) (S 10) (S 6)).1) 6 (s_X7_moveSetPoints (S 0) (S 5) (S 4) (S 10) (S 6)).2
theorem kRel.points {T : Int} {S : Nat → Nat → Int32} {j : Int64} {w : Nat → Int64} (h : kRel T S j w) (hn : kRn 0 w) (f : Nat → Int32) : kRel T (msS S) j (s_X11_movePoints f w) ∧ kRn (if s_X11_goesOn f w = 0 then 0 else 1) (s_X11_movePoints f w) := by
  have h43 : (w 43).toInt ≤ 12 := (h.e 43 (by decide)).kinL.2
  by_cases hg : s_X11_goesOn f w = 0
  · have hg2 : s_X4_goesOn (S 5) = 0 := (h.goes f).symm.trans hg
    unfold msS s_X11_movePoints s_X7_moveSetPoints
    rw [if_pos hg, if_pos hg, if_pos hg2]
    refine ⟨?_, hn⟩
    show kRel T (va_up (va_up S 5 (S 5)) 6 (S 6)) j w
    rw [va_self, va_self]
    exact h
  · have hg2 : ¬ s_X4_goesOn (S 5) = 0 := fun z => hg ((h.goes f).trans z)
    obtain ⟨hr, -⟩ := goes_run hg
    obtain ⟨i, hi, h35, hp1, hp2⟩ := hn.2 hr
    have h43e : kE (w 43) (S 4 1) 0 12 := h.e 43 (by decide)
    have h39 : kE (w 39) (S 5 4) 0 500 := h.e 39 (by decide)
    have hiS : (i : Int) < (S 4 1).toInt := by rw [← h43e.1] ; exact hi
    have hi12 : i < 12 := by omega
    have hS52 : S 5 2 = nI i := Int32.toInt_inj.mp (by rw [show (S 5 2).toInt = (w 35).toInt from (h.e 35 (by decide)).1.symm, h35, nIL (by omega), nI_toInt (by omega)])
    have s0 := h.sg hiS (d := 0) (by decide)
    have s1 := h.sg hiS (d := 1) (by decide)
    have s2 := h.sg hiS (d := 2) (by decide)
    have q0 : s_X6_property (S 4) (S 10) (S 5 2) 0 = S 10 (4 * i + 0) := sg_prop hi12 (by decide) hS52 rfl
    have q1 : s_X6_property (S 4) (S 10) (S 5 2) 1 = S 10 (4 * i + 1) := sg_prop hi12 (by decide) hS52 rfl
    have q2 : s_X6_property (S 4) (S 10) (S 5 2) 2 = S 10 (4 * i + 2) := sg_prop hi12 (by decide) hS52 rfl
    have e33 : (w 33 = 1) = (S 5 0 = 1) := kE.eqq (h.e 33 (by decide)) kE1
    unfold msS s_X11_movePoints s_X7_moveSetPoints
    rw [if_neg hg, if_neg hg, if_neg hg2]
    unfold s_X11_movePoints_9 s_X11_movePoints_8 s_X11_movePoints_7 s_X11_movePoints_6 j_X11_movePoints_1 j_X11_movePoints_5 j_X11_movePoints_2 j_X11_movePoints_4 j_X11_movePoints_3
    unfold s_X7_moveSetPoints_4 j_X7_moveSetPoints_3 j_X7_moveSetPoints_2 j_X7_moveSetPoints_1 s_X7_onRamp j_X7_onRamp_1 s_X7_onRamp_2
    have hself : kRel T (va_up S 5 (S 5)) j w := by rw [va_self]; exact h
    by_cases c1 : w 33 = 1
    · have c1S : S 5 0 = 1 := e33 ▸ c1
      obtain ⟨g2, g39, g40, g41⟩ := hp1 c1
      rw [if_pos c1, if_pos c1S]
      have r1 : ∀ {α : Type} {x y : α}, (if (1 : Int32) = 0 then x else y) = y := if_neg (by decide)
      rw [r1, r1, r1]
      have n2 : ¬ S 10 (4 * i + 2) ≤ 0 := fun z => by
        have := Int32.le_iff_toInt_le.mp z
        rw [Int32.toInt_zero] at this
        have := s2.1
        omega
      have i39 : (w 39 + 1).toInt = (w 39).toInt + 1 := i64_inc h39.kinL (by decide) (by decide)
      have b3 : sHi 2 = 500 := rfl
      have e39a := h39.add kE1 (by decide) (by decide)
      have e39 : kE (w 39 + 1) (S 5 4 + 1) 0 500 := e39a.bd (by have := e39a.2.1; omega) (by
        have b := s2.2.2
        have b2 := s2.1
        have c := e39a.1
        omega)
      generalize hw1 : vp_updL w 39 (w 39 + 1) = w1
      have w1k : ∀ k : Nat, k ≠ 39 → w1 k = w k := fun k hk => by rw [← hw1]; exact upnL hk rfl
      have o0 : s_X11_of_p0_0 f w1 = w (50 + 4 * i + 0) := (of0_at hi12 (by rw [w1k 35 (by decide)]; exact h35)).trans (w1k _ (by omega))
      have o2 : s_X11_of_p0_2 f w1 = w (50 + 4 * i + 2) := (of2_at hi12 (by rw [w1k 35 (by decide)]; exact h35)).trans (w1k _ (by omega))
      rw [o0, o2]
      have w2k : ∀ (x : Int64) (k : Nat), k ≠ 39 ∧ k ≠ 14 → vp_updL w1 14 x k = w k := fun x k hk => upnL hk.2 (w1k k hk.1)
      have o1 : ∀ x : Int64, s_X11_of_p0_1 f (vp_updL w1 14 x) = w (50 + 4 * i + 1) := fun x => (of1_at hi12 (by rw [w2k x 35 (by decide)]; exact h35)).trans (w2k x _ (by omega))
      have o22 : ∀ x : Int64, s_X11_of_p0_2 f (vp_updL w1 14 x) = w (50 + 4 * i + 2) := fun x => (of2_at hi12 (by rw [w2k x 35 (by decide)]; exact h35)).trans (w2k x _ (by omega))
      rw [o1, o22]
      have u4 : upd (S 5) 4 (S 5 4 + 1) 4 = S 5 4 + 1 := ups
      have u2 : upd (S 5) 4 (S 5 4 + 1) 2 = S 5 2 := rfl
      have hm2 : kE (w (50 + 4 * i + 2)) (S 10 (4 * i + 2)) 1 500 := s2.bd (by have := s2.1; omega) s2.2.2
      have hle : (S 5 4 + 1).toInt ≤ (S 10 (4 * i + 2)).toInt := by rw [← e39.1, ← s2.1, i39]; omega
      have a14 := kE.ramp (h.e 37 (by decide)) s0 e39 hm2 hle (L := -700) (H := 2000) ⟨Int.le_refl _, Int.le_refl _⟩ (by decide) (by decide)
      have a15 := kE.ramp (h.e 38 (by decide)) s1 e39 hm2 hle (L := 0) (H := 1000) ⟨Int.le_refl _, Int.le_refl _⟩ (by decide) (by decide)
      have k1 := hself.set2 39 (by decide) (by decide) rfl e39 (by decide) (Int.le_refl _)
      have k2 := ((k1.com 6 (by decide)).set2 14 (by decide) (by decide) rfl a14 (by decide) (Int.le_refl _)).set2 15 (by decide) (by decide) rfl a15 (by decide) (Int.le_refl _)
      rw [hw1] at k2
      refine ⟨?_, ?_⟩
      · rw [u2, u4, q2, if_neg n2, if_neg n2, q0, q1]
        exact k2
      · have w3k : ∀ (x y : Int64) (k : Nat), k ≠ 39 ∧ k ≠ 14 ∧ k ≠ 15 → vp_updL (vp_updL w1 14 x) 15 y k = w k := fun x y k hk => upnL hk.2.2 (w2k x k ⟨hk.1, hk.2.1⟩)
        have w39 : ∀ (x y : Int64), vp_updL (vp_updL w1 14 x) 15 y 39 = w 39 + 1 := fun x y => upnL (by decide) (upnL (by decide) (by rw [← hw1]; exact upsL))
        generalize hw3 : vp_updL (vp_updL w1 14 _) 15 _ = w3
        have a : ∀ k : Nat, k ≠ 39 ∧ k ≠ 14 ∧ k ≠ 15 → w3 k = w k := fun k hk => by rw [← hw3]; exact w3k _ _ k hk
        have b : w3 39 = w 39 + 1 := by rw [← hw3]; exact w39 _ _
        refine ⟨fun i2 hi2 => ?_, fun _ => ⟨i, by rw [a 43 (by decide)]; exact hi, by rw [a 35 (by decide)]; exact h35, fun _ => ?_, fun z => ?_⟩⟩
        · rw [a 43 (by decide)] at hi2
          rw [a _ (by omega), a _ (by omega)]
          exact hn.1 i2 hi2
        · rw [a _ (by omega), b, a 40 (by decide), a 41 (by decide), i39]
          exact ⟨g2, by omega, g40, g41⟩
        · rw [a 33 (by decide), c1] at z
          exact absurd z (by decide)
    · have c2 : w 33 = 2 := hr.resolve_left c1
      have c1S : ¬ S 5 0 = 1 := fun z => c1 (e33 ▸ z)
      rw [if_neg c1, if_neg c1S]
      have r1 : ∀ {α : Type} {x y : α}, (if (0 : Int32) = 0 then x else y) = x := if_pos rfl
      rw [r1, r1, r1, Int64.add_zero]
      generalize hw1 : vp_updL w 39 (w 39) = w1
      have hww : w1 = w := by
        rw [← hw1]; funext k
        unfold vp_updL
        by_cases c : k = 39
        · rw [if_pos c, c]
        · rw [if_neg c]
      rw [hww]
      have o0 : s_X11_of_p0_0 f w = w (50 + 4 * i + 0) := of0_at hi12 h35
      rw [o0]
      have w2k : ∀ (x : Int64) (k : Nat), k ≠ 14 → vp_updL w 14 x k = w k := fun x k hk => upnL hk rfl
      have o1 : ∀ x : Int64, s_X11_of_p0_1 f (vp_updL w 14 x) = w (50 + 4 * i + 1) := fun x => (of1_at hi12 (by rw [w2k x 35 (by decide)]; exact h35)).trans (w2k x _ (by omega))
      rw [o1]
      have k1 : kRel T (va_up S 6 (S 6)) j w := by rw [va_self]; exact h
      have k2 := (k1.set2 14 (by decide) (by decide) rfl s0 (by decide) (show (1800 : Int) ≤ 2000 by decide)).set2 15 (by decide) (by decide) rfl s1 (by decide) (Int.le_refl _)
      refine ⟨?_, ?_⟩
      · show kRel T (va_up (va_up S 5 (S 5)) 6 _) j _
        rw [va_self, q0, q1]
        exact k2
      · have w3k : ∀ (x y : Int64) (k : Nat), k ≠ 14 ∧ k ≠ 15 → vp_updL (vp_updL w 14 x) 15 y k = w k := fun x y k hk => upnL hk.2 (w2k x k hk.1)
        exact hn.cg (by decide) (fun k hk => w3k _ _ k (by omega)) h43
