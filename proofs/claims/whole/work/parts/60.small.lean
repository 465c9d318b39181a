/-! the small functions side by side -/
theorem kE.within {a lo hi : Int64} {x l h : Int32} {p q p1 q1 p2 q2 : Int} (ha : kE a x p q) (hl : kE lo l p1 q1) (hh : kE hi h p2 q2) (hle : q1 ≤ p2) : kE (s_X11_within a lo hi) (s_X10_limit x l h) p1 q2 := by
  unfold s_X11_within s_X11_within_1 s_X10_limit
  obtain ⟨a1, a2, a3⟩ := ha
  obtain ⟨l1, l2, l3⟩ := hl
  obtain ⟨h1, h2, h3⟩ := hh
  by_cases c1 : x < h
  · rw [if_pos c1]
    have d1 := Int32.lt_iff_toInt_lt.mp c1
    by_cases c2 : l < x
    · have d2 := Int32.lt_iff_toInt_lt.mp c2
      rw [if_pos c2, if_pos (Int64.le_iff_toInt_le.mpr (by omega)), if_pos (Int64.le_iff_toInt_le.mpr (by omega))]
      exact ⟨a1, by omega, by omega⟩
    · have d2 : ¬ l.toInt < x.toInt := fun z => c2 (Int32.lt_iff_toInt_lt.mpr z)
      rw [if_neg c2]
      by_cases c3 : lo ≤ a
      · have d3 := Int64.le_iff_toInt_le.mp c3
        rw [if_pos c3, if_pos (Int64.le_iff_toInt_le.mpr (by omega))]
        exact ⟨by omega, by omega, by omega⟩
      · rw [if_neg c3]
        exact ⟨l1, by omega, by omega⟩
  · rw [if_neg c1]
    have d1 : ¬ x.toInt < h.toInt := fun z => c1 (Int32.lt_iff_toInt_lt.mpr z)
    rw [if_pos (Int64.le_iff_toInt_le.mpr (by omega))]
    by_cases c2 : l < h
    · have d2 := Int32.lt_iff_toInt_lt.mp c2
      rw [if_pos c2]
      by_cases c3 : a ≤ hi
      · have d3 := Int64.le_iff_toInt_le.mp c3
        rw [if_pos c3]
        exact ⟨by omega, by omega, by omega⟩
      · rw [if_neg c3]
        exact ⟨h1, by omega, by omega⟩
    · have d2 : ¬ l.toInt < h.toInt := fun z => c2 (Int32.lt_iff_toInt_lt.mpr z)
      rw [if_neg c2]
      by_cases c3 : a ≤ hi
      · have d3 := Int64.le_iff_toInt_le.mp c3
        rw [if_pos c3]
        exact ⟨by omega, by omega, by omega⟩
      · rw [if_neg c3]
        exact ⟨by omega, by omega, by omega⟩
theorem kE.abs {a : Int64} {x : Int32} {M : Int} (h : kE a x (-M) M) (hM : M < 2147483648) : kE (s_X11_size a) (if 0 ≤ x then x else 0 - x) 0 M := by
  unfold s_X11_size s_X11_size_1
  refine kE.ite (kE.le kE0 h) (fun c => ?_) (fun c => ?_)
  · have d := Int32.le_iff_toInt_le.mp c
    rw [Int32.toInt_zero] at d
    exact ⟨h.1, d, h.2.2⟩
  · have d : ¬ (0 : Int32).toInt ≤ x.toInt := fun z => c (Int32.le_iff_toInt_le.mpr z)
    rw [Int32.toInt_zero] at d
    obtain ⟨e, l, u⟩ := h
    unfold kE
    rw [Int32.toInt_sub, Int64.toInt_neg, Int32.toInt_zero, kn_bmod (by omega) (by omega), kn_bmodL (by omega) (by omega)]
    omega
theorem kE.unlim {m g bd e : Int64} {x0 x1 x2 x : Int32} {E : Int} (hm : kE m x0 0 2) (hg : kE g x1 1 100) (hb : kE bd x2 0 50) (he : kE e x (-E) E) (h0 : 1000 ≤ E) (hE : E ≤ 1000000) : kE (if m = 0 then (if s_X11_size e ≤ bd then 0 else e) else (if m = 2 then (if e ≤ bd then (if (-bd) ≤ e then 0 else (-1000)) else 1000) else ((g * e) / 100))) (if x0 = 1 then ((x * x1) / 100) else (if x < (-x2) then (if x0 = 0 then x else (s_X0_unlimitedDemand_1 (if x ≤ 0 then (-1000) else 1000))) else (if x2 < x then (if x0 = 0 then x else (s_X0_unlimitedDemand_2 (if x ≤ 0 then (-1000) else 1000))) else 0))) (-(E * 100)) (E * 100) := by
  have hab := he.abs (by omega)
  have hnb := hb.neg (by omega)
  have em0 := kE.eqq hm kE0
  have em2 := kE.eqq hm (kE.lit (a := 2) (x := 2) (n := 2) (by decide) (by decide))
  by_cases c1 : x0 = 1
  · rw [if_pos c1, if_neg (by rw [em0, c1]; decide), if_neg (by rw [em2, c1]; decide), Int64.mul_comm]
    exact kE.div (kE.mul he hg (A := E) (B := 100) (by omega) (by omega) (by omega) (by omega) (by omega)) (kE.lit (a := 100) (x := 100) (n := 100) (by decide) (by decide)) (by omega) (by omega) (by omega)
  · rw [if_neg c1]
    obtain ⟨q1, q2, q3⟩ := he
    obtain ⟨b1, b2, b3⟩ := hb
    obtain ⟨n1, n2, n3⟩ := hnb
    obtain ⟨m1, m2, m3⟩ := hm
    have xneg : (-x2).toInt = - x2.toInt := by rw [Int32.toInt_neg, kn_bmod (by omega) (by omega)]
    have c1i : ¬ x0.toInt = 1 := fun z => c1 (Int32.toInt_inj.mp z)
    have habs : (s_X11_size e ≤ bd) = (¬ (x < -x2) ∧ ¬ (x2 < x)) := by
      rw [kE.le hab ⟨b1, b2, b3⟩, Int32.le_iff_toInt_le, Int32.lt_iff_toInt_lt, Int32.lt_iff_toInt_lt, xneg]
      by_cases c : 0 ≤ x
      · have d := Int32.le_iff_toInt_le.mp c
        rw [Int32.toInt_zero] at d
        rw [if_pos c]
        exact propext ⟨fun z => by omega, fun z => by omega⟩
      · have d : ¬ (0 : Int32).toInt ≤ x.toInt := fun z => c (Int32.le_iff_toInt_le.mpr z)
        rw [Int32.toInt_zero] at d
        rw [if_neg c, Int32.toInt_sub, Int32.toInt_zero, kn_bmod (by omega) (by omega)]
        exact propext ⟨fun z => by omega, fun z => by omega⟩
    have e1 : kE 1000 1000 1000 1000 := kE.lit (by decide) (by decide)
    have e2 : kE (-1000) (-1000) (-1000) (-1000) := kE.lit (by decide) (by decide)
    unfold s_X0_unlimitedDemand_1 s_X0_unlimitedDemand_2
    by_cases c0 : x0 = 0
    · rw [if_pos (by rw [em0]; exact c0)]
      by_cases a1 : x < -x2
      · rw [if_pos a1, if_pos c0, if_neg (by rw [habs]; exact fun z => z.1 a1)]
        exact ⟨q1, by omega, by omega⟩
      · rw [if_neg a1]
        by_cases a2 : x2 < x
        · rw [if_pos a2, if_pos c0, if_neg (by rw [habs]; exact fun z => z.2 a2)]
          exact ⟨q1, by omega, by omega⟩
        · rw [if_neg a2, if_pos (by rw [habs]; exact ⟨a1, a2⟩)]
          exact kE0.wk (by omega) (by omega)
    · have c2 : x0 = 2 := by
        refine Int32.toInt_inj.mp ?_
        have c0i : ¬ x0.toInt = 0 := fun z => c0 (Int32.toInt_inj.mp z)
        show x0.toInt = 2
        omega
      rw [if_neg (by rw [em0]; exact c0), if_pos (by rw [em2]; exact c2)]
      by_cases a1 : x < -x2
      · have d1 := Int32.lt_iff_toInt_lt.mp a1
        rw [xneg] at d1
        rw [if_pos a1, if_neg c0, if_pos (Int32.le_iff_toInt_le.mpr (by rw [Int32.toInt_zero]; omega)), if_pos (Int64.le_iff_toInt_le.mpr (by omega)), if_neg (fun z => by have := Int64.le_iff_toInt_le.mp z; omega)]
        exact e2.wk (by omega) (by omega)
      · have d1 : ¬ x.toInt < (-x2).toInt := fun z => a1 (Int32.lt_iff_toInt_lt.mpr z)
        rw [xneg] at d1
        rw [if_neg a1]
        by_cases a2 : x2 < x
        · have d2 := Int32.lt_iff_toInt_lt.mp a2
          rw [if_pos a2, if_neg c0, if_neg (show ¬ x ≤ 0 from fun z => by have := Int32.le_iff_toInt_le.mp z; rw [Int32.toInt_zero] at this; omega), if_neg (show ¬ e ≤ bd from fun z => by have := Int64.le_iff_toInt_le.mp z; omega)]
          exact e1.wk (by omega) (by omega)
        · have d2 : ¬ x2.toInt < x.toInt := fun z => a2 (Int32.lt_iff_toInt_lt.mpr z)
          rw [if_neg a2, if_pos (Int64.le_iff_toInt_le.mpr (by omega)), if_pos (Int64.le_iff_toInt_le.mpr (by omega))]
          exact kE0.wk (by omega) (by omega)
theorem kRel.demand0 {T : Int} {S : Nat → Nat → Int32} {j : Int64} {w : Nat → Int64} (h : kRel T S j w) (f : Nat → Int32) {e : Int64} {x : Int32} (he : kE e x (-10000) 10000) : kE (s_X11_demand_p0_0 f w e) (s_X0_demand (S 2) x (S 1 0) (S 1 1)) (-50) 50 := by
  unfold s_X11_demand_p0_0 s_X11_demand_p0_0_4 j_X11_demand_p0_0_3 j_X11_demand_p0_0_1 j_X11_demand_p0_0_2 s_X0_demand s_X0_unlimitedDemand
  exact kE.within (kE.unlim (h.e 17 (by decide)) (h.e 19 (by decide)) (h.e 21 (by decide)) he (by decide) (by decide)) ((h.e 1 (by decide)).neg (by decide)) (h.e 0 (by decide)) (by decide)
theorem kRel.demand1 {T : Int} {S : Nat → Nat → Int32} {j : Int64} {w : Nat → Int64} (h : kRel T S j w) (f : Nat → Int32) {e : Int64} {x : Int32} (he : kE e x (-10000) 10000) : kE (s_X11_demand_p0_1 f w e) (s_X0_demand (S 3) x (S 1 2) (S 1 3)) (-50) 50 := by
  unfold s_X11_demand_p0_1 s_X11_demand_p0_1_4 j_X11_demand_p0_1_3 j_X11_demand_p0_1_1 j_X11_demand_p0_1_2 s_X0_demand s_X0_unlimitedDemand
  exact kE.within (kE.unlim (h.e 18 (by decide)) (h.e 20 (by decide)) (h.e 22 (by decide)) he (by decide) (by decide)) ((h.e 3 (by decide)).neg (by decide)) (h.e 2 (by decide)) (by decide)
theorem at12 (f : Nat → Int32) {k : Nat} (h : k < 12) {x : Int32} (hx : x = nI k) : s_X10_at 12 f x = f k := by
  rw [hx]; exact at_nI h (by decide)
theorem sg_ix (i d : Nat) (hi : i < 12) (hd : d < 4) : nI i * 4 + nI d = nI (4 * i + d) := by
  have a := kIn.mulR (x := nI i) (y := 4) (n := 4) (by decide) (by decide) (kIx (n := i) (by omega)) (by omega) (by omega)
  have b := kIn.add a (kIx (n := d) (by omega)) (by omega) (by omega)
  exact nI_kin ⟨by have := b.1; omega, by have := b.2; omega⟩ (by omega)
theorem sg_prop {f cells : Nat → Int32} {i d : Nat} {x y : Int32} (hi : i < 12) (hd : d < 4) (hx : x = nI i) (hy : y = nI d) : s_X6_property f cells x y = cells (4 * i + d) := by
  unfold s_X6_property
  rw [hx, hy, sg_ix i d hi hd, at_nI (by omega) (by decide)]
theorem kRel.sg {T : Int} {S : Nat → Nat → Int32} {j : Int64} {w : Nat → Int64} (h : kRel T S j w) {i d : Nat} (hi : (i : Int) < (S 4 1).toInt) (hd : d < 4) : kE (w (50 + 4 * i + d)) (S 10 (4 * i + d)) (sLo d) (sHi d) := by
  have a := h.2.1 (4 * i + d) (by omega)
  rw [show 50 + (4 * i + d) = 50 + 4 * i + d by omega, show (4 * i + d) % 4 = d by omega] at a
  exact kE.of a.1 a.2
theorem of0_at {f : Nat → Int32} {w : Nat → Int64} {i : Nat} (hi : i < 12) (h : w 35 = (nI i).toInt64) : s_X11_of_p0_0 f w = w (50 + 4 * i + 0) := by
  unfold s_X11_of_p0_0
  rw [h, nIL_back]
  exact congrArg w (of_at i 0 (by omega) (by decide))
theorem of1_at {f : Nat → Int32} {w : Nat → Int64} {i : Nat} (hi : i < 12) (h : w 35 = (nI i).toInt64) : s_X11_of_p0_1 f w = w (50 + 4 * i + 1) := by
  unfold s_X11_of_p0_1
  rw [h, nIL_back]
  exact congrArg w (of_at i 1 (by omega) (by decide))
theorem of2_at {f : Nat → Int32} {w : Nat → Int64} {i : Nat} (hi : i < 12) (h : w 35 = (nI i).toInt64) : s_X11_of_p0_2 f w = w (50 + 4 * i + 2) := by
  unfold s_X11_of_p0_2
  rw [h, nIL_back]
  exact congrArg w (of_at i 2 (by omega) (by decide))
theorem of3_at {f : Nat → Int32} {w : Nat → Int64} {i : Nat} (hi : i < 12) (h : w 35 = (nI i).toInt64) : s_X11_of_p0_3 f w = w (50 + 4 * i + 3) := by
  unfold s_X11_of_p0_3
  rw [h, nIL_back]
  exact congrArg w (of_at i 3 (by omega) (by decide))
theorem i64_inc {x : Int64} {a b : Int} (h : kInL x a b) (ha : -9223372036854775808 ≤ a) (hb : b < 9223372036854775807) : (x + 1).toInt = x.toInt + 1 := by
  have h1 := h.1
  have h2 := h.2
  rw [Int64.toInt_add, show (1 : Int64).toInt = 1 by decide, kn_bmodL (by omega) (by omega)]
theorem pT {p q : Prop} (e : p = q) (h : q) : p := e ▸ h
theorem pTn {p q : Prop} (e : p = q) (h : ¬ q) : ¬ p := e ▸ h
theorem pTx {p q : Prop} (e : p = (¬ q)) (h : q) : ¬ p := fun z => (e ▸ z : ¬ q) h
