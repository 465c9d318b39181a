/-! the history, the counters -/
def histS (S : Nat → Nat → Int32) : Nat → Nat → Int32 := va_up (va_up S 9 (s_X3_add 60 (S 9) (S 25) (S 6 0)).1) 25 (s_X3_add 60 (S 9) (S 25) (S 6 0)).2
theorem histS_lo {S : Nat → Nat → Int32} {a : Nat} (h : a ≠ 9 ∧ a ≠ 25) : histS S a = S a := by
  unfold histS va_up
  rw [if_neg (by omega), if_neg (by omega)]
theorem cn_key {x : Nat → Int64} {m : Nat} (hm : m < 60) (hx : x 48 = (nI m).toInt64) (k : Nat) : s_X11_count_3 x k = if k = 48 then x 48 + 1 else if k = 234 + m then x 12 else x k := by
  have e : (234 : Int32) + (Int64.toInt32 (x 48)) = nI (234 + m) := by
    rw [hx, nIL_back]
    exact nI_plus (a := 234) (by omega)
  unfold s_X11_count_3
  rw [e, nI_clamp (by omega)]
  unfold vp_updL
  rfl
theorem kRel.hist {T : Int} {S : Nat → Nat → Int32} {j : Int64} {w x : Nat → Int64} (h : kRel T S j w) (hx : ∀ k : Nat, x k = if w 48 = 60 then (if k = 48 then w 48 - 1 else if 234 ≤ k ∧ k < 234 + 59 then w (k + 1) else w k) else w k) : kRel T (histS S) j (s_X11_count_3 x) := by
  have h12 : kE (w 12) (S 6 0) (-700) 2000 := h.e 12 (by decide)
  obtain ⟨a1, a2, ⟨r1, r2, r3, r4⟩, ⟨e1, e2, e3⟩, b1, b2, c⟩ := h
  have h48 := b1.many (by decide)
  have xo : ∀ k : Nat, k < 234 → k ≠ 48 → x k = w k := fun k h1 h2 => by
    rw [hx]
    by_cases c : w 48 = 60
    · rw [if_pos c, if_neg h2, if_neg (by omega)]
    · rw [if_neg c]
  have ex : ∃ m : Nat, m < 60 ∧ x 48 = (nI m).toInt64 ∧ ((w 48 = 60 ∧ m = 59) ∨ (¬ w 48 = 60 ∧ (w 48).toInt = (m : Int))) := by
    by_cases c : w 48 = 60
    · exact ⟨59, by decide, by rw [hx, if_pos c, if_pos rfl, c]; decide, Or.inl ⟨c, rfl⟩⟩
    · have n := h48.neHi c (by decide)
      have n1 := n.1
      have n2 := n.2
      refine ⟨(w 48).toInt.toNat, by omega, ?_, Or.inr ⟨c, by omega⟩⟩
      rw [hx, if_neg c]
      refine Int64.toInt_inj.mp ?_
      rw [nIL (by omega)]
      omega
  obtain ⟨m, hm, xm, hcase⟩ := ex
  have key := cn_key hm xm
  have fr : ∀ k : Nat, k < 234 → k ≠ 48 → s_X11_count_3 x k = w k := fun k h1 h2 => by
    rw [key, if_neg h2, if_neg (by omega), xo k h1 h2]
  have W48 : s_X11_count_3 x 48 = x 48 + 1 := (key 48).trans (if_pos rfl)
  have x12 : x 12 = (S 6 0).toInt64 := (xo 12 (by decide) (by decide)).trans h12.eq
  refine ⟨fun k hk => ?_, fun k hk => ?_, ⟨?_, ?_, ?_, ?_⟩, ⟨?_, ?_, ?_⟩, ?_, fun i hi => ?_, ?_⟩
  · have := rA_le k hk
    unfold rS
    rw [histS_lo (by omega), fr k (by omega) (by omega)]
    exact a1 k hk
  · rw [histS_lo (by decide)] at hk
    have b43 : (S 4 1).toInt ≤ 12 := (a1 43 (by decide)).2.2
    rw [histS_lo (by decide), fr _ (by omega) (by omega)]
    exact a2 k hk
  · exact r1.cg (histS_lo (by decide)) (histS_lo (by decide)) (fr 45 (by decide) (by decide)) (fun i hi => fr _ (by omega) (by omega))
  · exact r2.cg (histS_lo (by decide)) (histS_lo (by decide)) (fr 45 (by decide) (by decide)) (fun i hi => fr _ (by omega) (by omega))
  · exact r3.cg (histS_lo (by decide)) (histS_lo (by decide)) (fr 45 (by decide) (by decide)) (fun i hi => fr _ (by omega) (by omega))
  · exact r4.cg (histS_lo (by decide)) (histS_lo (by decide)) (fr 45 (by decide) (by decide)) (fun i hi => fr _ (by omega) (by omega))
  · exact e1.cg (histS_lo (by decide)) (histS_lo (by decide)) (fr 46 (by decide) (by decide)) (fun i hi => fr _ (by omega) (by omega))
  · exact e2.cg (histS_lo (by decide)) (histS_lo (by decide)) (fr 46 (by decide) (by decide)) (fun i hi => fr _ (by omega) (by omega))
  · exact e3.cg (histS_lo (by decide)) (histS_lo (by decide)) (fr 46 (by decide) (by decide)) (fun i hi => fr _ (by omega) (by omega))
  · have r : rgR 60 (s_X3_add 60 (S 9) (S 25) (S 6 0)).1 (s_X3_add 60 (S 9) (S 25) (S 6 0)).2 (s_X11_count_3 x 48) (fun i => s_X11_count_3 x (234 + 1 * i + 0)) := by
      refine rg_store (x := x) (w := w) (B := 234) (s := 1) (d := 0) (M := 48) (b1.cg rfl rfl rfl (fun i _ => by rw [Nat.one_mul, Nat.add_zero])) (by decide) (by decide) (by decide) (fun k => hx k) W48 (fun m2 hx2 hm2 => ?_)
      have em : m2 = m := nIL_inj (by omega) (by omega) (hx2.symm.trans xm)
      subst em
      refine ⟨fun i hi hne => ?_, ?_⟩
      · refine (key (234 + 1 * i + 0)).trans ?_
        rw [if_neg (by omega), if_neg (by omega)]
      · refine (key (234 + 1 * m2 + 0)).trans ?_
        rw [if_neg (by omega), if_pos (by omega), x12]
    exact r.cg rfl rfl rfl (fun i _ => by rw [Nat.one_mul, Nat.add_zero])
  · rw [W48, xm, nIL_inc (by omega), nIL (by omega)] at hi
    rw [key, if_neg (by omega)]
    by_cases c : i = m
    · subst c
      rw [if_pos rfl, x12, ← h12.eq]
      exact h12.kinL
    · rw [if_neg (by omega), hx]
      rcases hcase with ⟨q1, q2⟩ | ⟨q1, q2⟩
      · rw [if_pos q1, if_neg (by omega), if_pos (by omega)]
        refine b2 (i + 1) ?_
        rw [q1, show (60 : Int64).toInt = 60 by decide]
        omega
      · rw [if_neg q1]
        exact b2 i (by omega)
  · rw [fr 47 (by decide) (by decide)]; exact c
/-- the bundle behind Climate.count -/
def cntS (S : Nat → Nat → Int32) (p0 p1 : Int32) : Nat → Nat → Int32 := va_up S 6 (s_X1_count (S 6) p0 p1)
theorem kE.bump {a : Int64} {x : Int32} {T : Int} {c1 c2 : Int64} {d1 d2 : Int32} (e : (c1 ≤ c2) = (d1 ≤ d2)) (h : kE a x 0 T) (hT : T < 2147483647) : kE (a + (if c1 ≤ c2 then 0 else 1)) (x + (if d1 ≤ d2 then 0 else 1)) 0 (T + 1) := by
  have k : kE (if c1 ≤ c2 then (0 : Int64) else 1) (if d1 ≤ d2 then (0 : Int32) else 1) 0 1 := kE.ite e (fun _ => kE0.wk (by decide) (by decide)) (fun _ => kE1.wk (by decide) (by decide))
  exact (h.add k (by omega) (by omega)).wk (by omega) (by omega)
theorem kE.rest {a : Int64} {x : Int32} {c1 c2 : Int64} {d1 d2 : Int32} (e : (c1 ≤ c2) = (d1 ≤ d2)) (h : kE a x 0 1000) : kE (if c1 ≤ c2 then (s_X11_within (a + 1) 0 1000) else 0) (if d1 ≤ d2 then (if 1000 < x + 1 then 1000 else x + 1) else 0) 0 1000 := by
  refine kE.ite e (fun _ => ?_) (fun _ => kE0.wk (by decide) (by decide))
  have k := h.add kE1 (by decide) (by decide)
  have kt : kE 1000 1000 1000 1000 := kE.lit (by decide) (by decide)
  unfold s_X11_within s_X11_within_1
  rw [if_pos (by rw [kE.le kE0 k]; exact Int32.le_iff_toInt_le.mpr (by rw [Int32.toInt_zero]; have := k.2.1; omega))]
  by_cases c2 : 1000 < x + 1
  · rw [if_pos c2, if_neg (by rw [kE.le k kt]; exact fun z => absurd (Int32.lt_iff_toInt_lt.mp c2) (by have := Int32.le_iff_toInt_le.mp z; omega))]
    exact kt.wk (by decide) (by decide)
  · have d2 : ¬ (1000 : Int32).toInt < (x + 1).toInt := fun z => c2 (Int32.lt_iff_toInt_lt.mpr z)
    have e1000 : (1000 : Int32).toInt = 1000 := by decide
    rw [if_neg c2, if_pos (by rw [kE.le k kt]; exact Int32.le_iff_toInt_le.mpr (by omega))]
    exact k.bd (by have := k.2.1; omega) (by omega)
theorem kE.less {a : Int64} {x : Int32} {lo hi m : Int} (h : kE a x lo hi) (k : a.toInt ≤ m) : kE a x lo m := ⟨h.1, h.2.1, by rw [← h.1]; exact k⟩
set_option maxHeartbeats 1000000 in
theorem kRel.count {T : Int} {S : Nat → Nat → Int32} {j : Int64} {w : Nat → Int64} (h : kRel T S j w) (hT : 0 ≤ T ∧ T ≤ 40000) (f : Nat → Int32) {a b : Int64} {p0 p1 : Int32} (ha : kE a p0 (-50) 50) (hb : kE b p1 (-50) 50) (hc : ∀ k : Nat, k = 25 ∨ k = 26 ∨ k = 27 ∨ k = 28 → (w k).toInt ≤ T - 1) (h31 : (w 31).toInt ≤ 100 * (T - 1)) : kRel T (histS (cntS S p0 p1)) j (s_X11_count f w a b) := by
  have z0 := kE.le ha kE0
  have z1 := kE.le kE0 ha
  have z2 := kE.le hb kE0
  have z3 := kE.le kE0 hb
  unfold s_X11_count s_X11_count_9 s_X11_count_8 s_X11_count_7 s_X11_count_6 s_X11_count_5 s_X11_count_4
  unfold cntS s_X1_count s_X1_count_7 s_X1_count_6 s_X1_count_5 s_X1_count_4 s_X1_count_3 s_X1_count_2 s_X1_count_1
  have k1 := (h.sel 6).set2 23 (by decide) (by decide) rfl (kE.rest z0 (h.e 23 (by decide))) (by decide) (Int.le_refl _)
  have k2 := k1.set2 24 (by decide) (by decide) rfl (kE.rest z1 (h.e 24 (by decide))) (by decide) (Int.le_refl _)
  have bb : T - 1 + 1 ≤ T := by omega
  have k3 := k2.set2 25 (by decide) (by decide) rfl (kE.bump (T := T - 1) z0 ((h.e 25 (by decide)).less (hc 25 (by omega))) (by omega)) (by decide) bb
  have k4 := k3.set2 26 (by decide) (by decide) rfl (kE.bump (T := T - 1) z1 ((h.e 26 (by decide)).less (hc 26 (by omega))) (by omega)) (by decide) bb
  have k5 := k4.set2 27 (by decide) (by decide) rfl (kE.bump (T := T - 1) z2 ((h.e 27 (by decide)).less (hc 27 (by omega))) (by omega)) (by decide) bb
  have k6 := k5.set2 28 (by decide) (by decide) rfl (kE.bump (T := T - 1) z3 ((h.e 28 (by decide)).less (hc 28 (by omega))) (by omega)) (by decide) bb
  have e31 : kE (w 31) (S 6 13) 0 (100 * (T - 1)) := (h.e 31 (by decide)).less h31
  have en : kE (w 31 + (s_X11_size a + s_X11_size b)) (S 6 13 + ((if 0 ≤ p0 then p0 else 0 - p0) + (if 0 ≤ p1 then p1 else 0 - p1))) 0 (100 * T) := by
    have q := e31.add ((ha.abs (M := 50) (by decide)).add (hb.abs (M := 50) (by decide)) (by decide) (by decide)) (by decide) (by omega)
    exact q.wk (by decide) (by omega)
  have k7 := k6.set2 31 (by decide) (by decide) rfl en (by decide) (Int.le_refl _)
  have k8 : kRel T _ j (cn_v w _ _ _ _ _ _ a b) := k7
  refine k8.hist (fun k => (cn_pre w _ _ _ _ _ _ a b k).trans ?_)
  rw [cn_vk w _ _ _ _ _ _ a b 48 (by omega)]
  by_cases c : w 48 = 60
  · rw [if_pos c, if_pos c]
    by_cases c2 : k = 48
    · rw [if_pos c2, if_pos c2]
    · rw [if_neg c2, if_neg c2]
      by_cases c3 : 234 ≤ k ∧ k < 234 + 59
      · rw [if_pos c3, if_pos c3, cn_vk w _ _ _ _ _ _ a b (k + 1) (by omega)]
      · rw [if_neg c3, if_neg c3]
  · rw [if_neg c, if_neg c]
