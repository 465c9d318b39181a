/-! the spread and the mean -/
theorem nlt32 {x y : Int32} (h : ¬ x < y) : y.toInt ≤ x.toInt := by
  have a : ¬ x.toInt < y.toInt := fun z => h (Int32.lt_iff_toInt_lt.mpr z)
  omega
theorem nle64 {x y : Int64} (h : ¬ x ≤ y) : y.toInt < x.toInt := by
  have a : ¬ x.toInt ≤ y.toInt := fun z => h (Int64.le_iff_toInt_le.mpr z)
  omega
theorem hs_q {T : Int} {S : Nat → Nat → Int32} {j : Int64} {w : Nat → Int64} (h : kRel T S j w) : ∃ q : Nat, q ≤ 60 ∧ w 48 = (nI q).toInt64 ∧ S 9 2 = nI q ∧ (∀ b : Nat, b < q → (s_X3_latest 60 (S 9) (S 25) (nI b)).toInt = (w (234 + (q - 1 - b))).toInt) ∧ ∀ i : Nat, i < q → -700 ≤ (w (234 + i)).toInt ∧ (w (234 + i)).toInt ≤ 2000 := by
  obtain ⟨p, q, h1, h2, h3, h4, h5, h6⟩ := h.2.2.2.2.1
  refine ⟨q, h2, h5, h4, fun b hb => ?_, fun i hi => h.2.2.2.2.2.1 i (by rw [h5, nIL (by omega)]; omega)⟩
  rw [latest_nI (N := 60) (by decide) h1 h2 h3 h4 hb]
  have e : (w (234 + (q - 1 - b))).toInt = ((S 25 ((p + 60 - 1 - b) % 60)).toInt64).toInt := congrArg Int64.toInt (h6 b hb)
  rw [e, Int32.toInt_toInt64]
theorem hs_m {f : Nat → Int32} {w : Nat → Int64} {g2 p0 : Int32} {q : Nat} (hq : q ≤ 60) (h1 : w 48 = (nI q).toInt64) (h2 : g2 = nI q) (hp : 1 ≤ p0.toInt ∧ p0.toInt ≤ 60) : ∃ m : Nat, m ≤ q ∧ (m = 0 ↔ q = 0) ∧ (if g2 < p0 then g2 else p0) = nI m ∧ s_X11_from f w p0 = nI (q - m) := by
  obtain ⟨n1, n2⟩ := nIofI (p := p0) (N := 60) (by omega) hp.2
  generalize p0.toInt.toNat = n at n1 n2
  have ec : (w 48 ≤ p0.toInt64) = (q ≤ n) := by
    rw [h1, n1, Int64.le_iff_toInt_le, nIL (by omega), nIL (by omega)]
    exact propext ⟨fun z => by omega, fun z => by omega⟩
  unfold s_X11_from s_X11_from_1
  by_cases c : q < n
  · refine ⟨q, Nat.le_refl _, Iff.rfl, ?_, ?_⟩
    · rw [h2, n1, if_pos (nI_lt c (by omega))]
    · rw [if_pos (pT ec (by omega)), Nat.sub_self]
      rfl
  · refine ⟨n, by omega, by omega, ?_, ?_⟩
    · rw [h2, n1, if_neg (nI_nlt (by omega) (by omega))]
    · by_cases c2 : q = n
      · rw [if_pos (pT ec (by omega)), c2, Nat.sub_self]
        rfl
      · rw [if_neg (pTn ec (by omega)), h1, nIL_back, n1, nI_minus (by omega) (by omega)]
theorem sp_c {g c : Nat → Int32} {m : Nat} {F : Nat → Int} (hm : 1 ≤ m ∧ m ≤ 60) (lat : ∀ b : Nat, b < m → (s_X3_latest 60 g c (nI b)).toInt = F b) : (fun r : Int32 × Int32 × Int32 => (∀ b : Nat, b < m → F b ≤ r.2.1.toInt ∧ r.2.2.toInt ≤ F b) ∧ (∃ b : Nat, b < m ∧ F b = r.2.1.toInt) ∧ (∃ b : Nat, b < m ∧ F b = r.2.2.toInt)) (kLoop default (b_X10_spread_L49 (nI m) g c) ((Int32.toInt (nI m) - Int32.toInt 1).toNat + 1) (1, s_X3_latest 60 g c 0, s_X3_latest 60 g c 0)) := by
  have e : (Int32.toInt (nI m) - Int32.toInt 1).toNat + 1 = (m - 1) + 1 := by
    rw [nI_toInt (by omega), show Int32.toInt 1 = 1 by decide]
    omega
  have l0 : (s_X3_latest 60 g c 0).toInt = F 0 := lat 0 (by omega)
  rw [e]
  refine kLoop_inv (d := default) (b := b_X10_spread_L49 (nI m) g c) (fun z => ∃ i : Nat, 1 ≤ i ∧ i ≤ m ∧ z.1 = nI i ∧ (∀ b : Nat, b < i → F b ≤ z.2.1.toInt ∧ z.2.2.toInt ≤ F b) ∧ (∃ b : Nat, b < i ∧ F b = z.2.1.toInt) ∧ (∃ b : Nat, b < i ∧ F b = z.2.2.toInt)) (fun r => (∀ b : Nat, b < m → F b ≤ r.2.1.toInt ∧ r.2.2.toInt ≤ F b) ∧ (∃ b : Nat, b < m ∧ F b = r.2.1.toInt) ∧ (∃ b : Nat, b < m ∧ F b = r.2.2.toInt)) (fun z => m - z.1.toNatClampNeg) (fun x y hP hy => ?_) (fun x r hP hy => ?_) ((m - 1) + 1) _ ?_ ⟨1, Nat.le_refl _, hm.1, rfl, fun b hb => ?_, ⟨0, by decide, l0.symm⟩, ⟨0, by decide, l0.symm⟩⟩
  · obtain ⟨i, i1, i2, i3, i4, ⟨b1, i5, i6⟩, ⟨b2, i7, i8⟩⟩ := hP
    unfold b_X10_spread_L49 at hy
    by_cases cc : nI m ≤ x.1
    · rw [if_pos cc] at hy; cases hy
    · rw [if_neg cc] at hy
      have hlt : i < m := by
        rcases Nat.lt_or_ge i m with q | q
        · exact q
        · exact absurd (by rw [i3]; exact nI_le q (by omega)) cc
      have li := lat i hlt
      rw [← i3] at li
      unfold b_X10_spread_2 b_X10_spread_1 at hy
      have hy := (Sum.inl.inj hy).symm
      subst hy
      refine ⟨⟨i + 1, by omega, hlt, ?_, fun b hb => ?_, ?_, ?_⟩, ?_⟩
      · show x.1 + 1 = _
        rw [i3, nI_succ]
      · show F b ≤ (if x.2.1 < s_X3_latest 60 g c x.1 then s_X3_latest 60 g c x.1 else x.2.1).toInt ∧ (if s_X3_latest 60 g c x.1 < x.2.2 then s_X3_latest 60 g c x.1 else x.2.2).toInt ≤ F b
        by_cases hb2 : b = i
        · subst hb2
          refine ⟨?_, ?_⟩
          · by_cases k : x.2.1 < s_X3_latest 60 g c x.1
            · rw [if_pos k]; omega
            · have := nlt32 k
              rw [if_neg k]; omega
          · by_cases k : s_X3_latest 60 g c x.1 < x.2.2
            · rw [if_pos k]; omega
            · have := nlt32 k
              rw [if_neg k]; omega
        · have o := i4 b (by omega)
          refine ⟨?_, ?_⟩
          · by_cases k : x.2.1 < s_X3_latest 60 g c x.1
            · have := Int32.lt_iff_toInt_lt.mp k
              rw [if_pos k]; omega
            · rw [if_neg k]; exact o.1
          · by_cases k : s_X3_latest 60 g c x.1 < x.2.2
            · have := Int32.lt_iff_toInt_lt.mp k
              rw [if_pos k]; omega
            · rw [if_neg k]; exact o.2
      · show ∃ b : Nat, b < i + 1 ∧ F b = (if x.2.1 < s_X3_latest 60 g c x.1 then s_X3_latest 60 g c x.1 else x.2.1).toInt
        by_cases k : x.2.1 < s_X3_latest 60 g c x.1
        · rw [if_pos k]; exact ⟨i, by omega, li.symm⟩
        · rw [if_neg k]; exact ⟨b1, by omega, i6⟩
      · show ∃ b : Nat, b < i + 1 ∧ F b = (if s_X3_latest 60 g c x.1 < x.2.2 then s_X3_latest 60 g c x.1 else x.2.2).toInt
        by_cases k : s_X3_latest 60 g c x.1 < x.2.2
        · rw [if_pos k]; exact ⟨i, by omega, li.symm⟩
        · rw [if_neg k]; exact ⟨b2, by omega, i8⟩
      · show m - (x.1 + 1).toNatClampNeg < m - x.1.toNatClampNeg
        rw [i3, ← nI_succ, nI_clamp (by omega), nI_clamp (by omega)]
        omega
  · obtain ⟨i, i1, i2, i3, i4, i5, i6⟩ := hP
    unfold b_X10_spread_L49 at hy
    by_cases cc : nI m ≤ x.1
    · rw [if_pos cc] at hy
      have hy := (Sum.inr.inj hy).symm
      subst hy
      have hi : i = m := by
        rcases Nat.lt_or_ge i m with q | q
        · exact absurd cc (by rw [i3]; exact nI_ge q (by omega))
        · omega
      subst hi
      exact ⟨i4, i5, i6⟩
    · rw [if_neg cc] at hy
      unfold b_X10_spread_2 b_X10_spread_1 at hy
      cases hy
  · show m - (1 : Int32).toNatClampNeg < m - 1 + 1
    rw [show (1 : Int32).toNatClampNeg = 1 by decide]
    omega
  · have e0 : b = 0 := by omega
    subst e0
    show F 0 ≤ (s_X3_latest 60 g c 0).toInt ∧ (s_X3_latest 60 g c 0).toInt ≤ F 0
    omega
theorem sp_r {w : Nat → Int64} {q m : Nat} {F : Nat → Int} (hq : q ≤ 60) (hm : m ≤ q) (h48 : w 48 = (nI q).toInt64) (hF : ∀ j : Nat, j < q → (w (234 + j)).toInt = F j) : (fun r : Int32 × Int64 × Int64 => (∀ j : Nat, q - m ≤ j → j < q → F j ≤ r.2.1.toInt ∧ r.2.2.toInt ≤ F j) ∧ (r.2.1.toInt = -700 ∨ ∃ j : Nat, q - m ≤ j ∧ j < q ∧ F j = r.2.1.toInt) ∧ (r.2.2.toInt = 2000 ∨ ∃ j : Nat, q - m ≤ j ∧ j < q ∧ F j = r.2.2.toInt)) (kLoop default (b_X11_spread_L39 w) ((60 - Int32.toInt (nI (q - m))).toNat + 1) (nI (q - m), -700, 2000)) := by
  refine kLoop_inv (d := default) (b := b_X11_spread_L39 w) (fun z => ∃ i : Nat, q - m ≤ i ∧ i ≤ q ∧ z.1 = nI i ∧ (∀ j : Nat, q - m ≤ j → j < i → F j ≤ z.2.1.toInt ∧ z.2.2.toInt ≤ F j) ∧ (z.2.1.toInt = -700 ∨ ∃ j : Nat, q - m ≤ j ∧ j < i ∧ F j = z.2.1.toInt) ∧ (z.2.2.toInt = 2000 ∨ ∃ j : Nat, q - m ≤ j ∧ j < i ∧ F j = z.2.2.toInt)) (fun r => (∀ j : Nat, q - m ≤ j → j < q → F j ≤ r.2.1.toInt ∧ r.2.2.toInt ≤ F j) ∧ (r.2.1.toInt = -700 ∨ ∃ j : Nat, q - m ≤ j ∧ j < q ∧ F j = r.2.1.toInt) ∧ (r.2.2.toInt = 2000 ∨ ∃ j : Nat, q - m ≤ j ∧ j < q ∧ F j = r.2.2.toInt)) (fun z => q - z.1.toNatClampNeg) (fun x y hP hy => ?_) (fun x r hP hy => ?_) _ _ ?_ ⟨q - m, Nat.le_refl _, by omega, rfl, fun b h1 h2 => absurd h1 (by omega), Or.inl (show (-700 : Int64).toInt = -700 by decide), Or.inl (show (2000 : Int64).toInt = 2000 by decide)⟩
  · obtain ⟨i, i1, i2, i3, i4, i5, i6⟩ := hP
    unfold b_X11_spread_L39 at hy
    by_cases cc : w 48 ≤ Int32.toInt64 x.1
    · rw [if_pos cc] at hy; cases hy
    · rw [if_neg cc] at hy
      have hlt : i < q := by
        rcases Nat.lt_or_ge i q with k | k
        · exact k
        · exact absurd (by rw [i3, h48]; exact Int64.le_iff_toInt_le.mpr (by rw [nIL (by omega), nIL (by omega)]; omega)) cc
      have ei : (234 : Int32) + x.1 = nI (234 + i) := by rw [i3]; exact nI_plus (a := 234) (by omega)
      have li := hF i hlt
      unfold b_X11_spread_2 b_X11_spread_1 at hy
      rw [ei, nI_clamp (by omega)] at hy
      have hy := (Sum.inl.inj hy).symm
      subst hy
      generalize w (234 + i) = v at li
      refine ⟨⟨i + 1, by omega, hlt, ?_, fun j h1 h2 => ?_, ?_, ?_⟩, ?_⟩
      · show x.1 + 1 = _
        rw [i3, nI_succ]
      · show F j ≤ (if v ≤ x.2.1 then x.2.1 else v).toInt ∧ (if x.2.2 ≤ v then x.2.2 else v).toInt ≤ F j
        by_cases hb2 : j = i
        · subst hb2
          refine ⟨?_, ?_⟩
          · by_cases k : v ≤ x.2.1
            · have := Int64.le_iff_toInt_le.mp k
              rw [if_pos k]; omega
            · rw [if_neg k]; omega
          · by_cases k : x.2.2 ≤ v
            · have := Int64.le_iff_toInt_le.mp k
              rw [if_pos k]; omega
            · rw [if_neg k]; omega
        · have o := i4 j h1 (by omega)
          refine ⟨?_, ?_⟩
          · by_cases k : v ≤ x.2.1
            · rw [if_pos k]; exact o.1
            · have := nle64 k
              rw [if_neg k]; omega
          · by_cases k : x.2.2 ≤ v
            · rw [if_pos k]; exact o.2
            · have := nle64 k
              rw [if_neg k]; omega
      · show (if v ≤ x.2.1 then x.2.1 else v).toInt = -700 ∨ ∃ j : Nat, q - m ≤ j ∧ j < i + 1 ∧ F j = (if v ≤ x.2.1 then x.2.1 else v).toInt
        by_cases k : v ≤ x.2.1
        · rw [if_pos k]
          rcases i5 with i5 | ⟨b1, a1, a2, a3⟩
          · exact Or.inl i5
          · exact Or.inr ⟨b1, a1, by omega, a3⟩
        · rw [if_neg k]; exact Or.inr ⟨i, i1, by omega, li.symm⟩
      · show (if x.2.2 ≤ v then x.2.2 else v).toInt = 2000 ∨ ∃ j : Nat, q - m ≤ j ∧ j < i + 1 ∧ F j = (if x.2.2 ≤ v then x.2.2 else v).toInt
        by_cases k : x.2.2 ≤ v
        · rw [if_pos k]
          rcases i6 with i6 | ⟨b1, a1, a2, a3⟩
          · exact Or.inl i6
          · exact Or.inr ⟨b1, a1, by omega, a3⟩
        · rw [if_neg k]; exact Or.inr ⟨i, i1, by omega, li.symm⟩
      · show q - (x.1 + 1).toNatClampNeg < q - x.1.toNatClampNeg
        rw [i3, ← nI_succ, nI_clamp (by omega), nI_clamp (by omega)]
        omega
  · obtain ⟨i, i1, i2, i3, i4, i5, i6⟩ := hP
    unfold b_X11_spread_L39 at hy
    by_cases cc : w 48 ≤ Int32.toInt64 x.1
    · rw [if_pos cc] at hy
      have hy := (Sum.inr.inj hy).symm
      subst hy
      have hi : i = q := by
        have a := Int64.le_iff_toInt_le.mp cc
        rw [i3, h48, nIL (by omega), nIL (by omega)] at a
        omega
      subst hi
      exact ⟨i4, i5, i6⟩
    · rw [if_neg cc] at hy
      unfold b_X11_spread_2 b_X11_spread_1 at hy
      cases hy
  · show q - (nI (q - m)).toNatClampNeg < (60 - Int32.toInt (nI (q - m))).toNat + 1
    rw [nI_clamp (by omega), nI_toInt (by omega)]
    omega
theorem ok_spread {l : Launch} (hl0 : l.stackTraces = false) (D : va_G) (cI cJ cO : ClassId) (z : zT) {X : kXS} {Y : kTS} {M : kMS} (b o : Nat) (u : Nat → Nat) (fo : Nat → Int64) (p0 : Int32) (h : rR X Y M) : lStep l D cI cJ cO z yL_spread cL_spread 4 [(0, 9, 12, 15)] [.ref b, .int p0, .ref o] b o u X Y fo (a_spread M p0) ((q_spread M p0).1 7) (fun X2 Y2 => rR X2 Y2 (q_spread M p0)) := by
  obtain ⟨T, hT1, hT2, hr, hn⟩ := id h.1
  have e1 : s_X11_in p0.toInt64 1 60 = s_X10_isWithin p0 1 60 := inW (kE.lit (a := 1) (x := 1) (n := 1) (by decide) (by decide)) (kE.lit (a := 60) (x := 60) (n := 60) (by decide) (by decide))
  by_cases v : s_X10_isWithin p0 1 60 = 0
  · refine lSt_t (by decide) (by decide) (w_spread_1 l hl0 D cI cJ cO z b o u X Y fo p0 v) rfl (by decide) ?_ h
    unfold q_spread s_X11_spread s_X11_spread_3 s_X11_refuse
    rw [if_pos (e1.trans v)]
  · have c1 : ¬ s_X11_in p0.toInt64 1 60 = 0 := by rw [e1]; exact v
    have hp : 1 ≤ p0.toInt ∧ p0.toInt ≤ 60 := wi_yes v
    obtain ⟨q, hq60, h48, h92, lat, bnd⟩ := hs_q hr
    obtain ⟨m, m1, m2, m3, m4⟩ := hs_m (f := upd M.1 7 0) hq60 h48 h92 hp
    refine lSt_r (by decide) (by decide) (w_spread_0 l hl0 D cI cJ cO z b o u X Y fo p0 v) rfl ?_ ?_ h
    · unfold q_spread s_X11_spread s_X11_spread_5 s_X11_spread_4
      rw [if_neg c1]
    · refine congrArg Int32.toInt64 ?_
      unfold r_spread_0 s_X10_spread s_X10_spread_4 s_X10_spread_3 a_spread s_X11_spread s_X11_spread_5 s_X11_spread_4
      rw [if_neg c1, m3, m4]
      have z48 : (M.2.1 48 = 0) = (q = 0) := by
        rw [h48]
        refine propext ⟨fun y => nIL_inj (by omega) (by decide) y, fun y => by rw [y]; rfl⟩
      by_cases c : q = 0
      · have cm : m = 0 := by omega
        rw [if_pos (show nI m = 0 by rw [cm]; rfl), if_pos (pT z48 c)]
      · have cm : ¬ m = 0 := by omega
        rw [if_neg (show ¬ nI m = 0 from fun y => cm (nI_inj (b := 0) (by omega) (by decide) y)), if_neg (pTn z48 c)]
        have A := sp_c (g := X.1 9) (c := X.1 25) (m := m) (F := fun b => (M.2.1 (234 + (q - 1 - b))).toInt) ⟨by omega, by omega⟩ (fun b hb => lat b (by omega))
        have B := sp_r (w := M.2.1) (q := q) (m := m) (F := fun j => (M.2.1 (234 + j)).toInt) hq60 m1 h48 (fun j _ => rfl)
        generalize (kLoop default (b_X10_spread_L49 (nI m) (X.1 9) (X.1 25)) ((Int32.toInt (nI m) - Int32.toInt 1).toNat + 1) (1, s_X3_latest 60 (X.1 9) (X.1 25) 0, s_X3_latest 60 (X.1 9) (X.1 25) 0)) = r at A ⊢
        generalize (kLoop default (b_X11_spread_L39 M.2.1) ((60 - Int32.toInt (nI (q - m))).toNat + 1) (nI (q - m), -700, 2000)) = r2 at B ⊢
        obtain ⟨A1, ⟨b1, A2, A3⟩, ⟨b2, A4, A5⟩⟩ := A
        obtain ⟨B1, B2, B3⟩ := B
        have x1 := B1 (q - 1 - b1) (by omega) (by omega)
        have x2 := B1 (q - 1 - b2) (by omega) (by omega)
        have y0 := bnd (q - 1 - b1) (by omega)
        have y1 := bnd (q - 1 - b2) (by omega)
        have hi : r2.2.1.toInt = r.2.1.toInt := by
          have l1 : r2.2.1.toInt ≤ r.2.1.toInt := by
            rcases B2 with B2 | ⟨j, j1, j2, j3⟩
            · omega
            · have a := (A1 (q - 1 - j) (by omega)).1
              have e : q - 1 - (q - 1 - j) = j := by omega
              rw [e] at a
              omega
          omega
        have lo : r2.2.2.toInt = r.2.2.toInt := by
          have l1 : r.2.2.toInt ≤ r2.2.2.toInt := by
            rcases B3 with B3 | ⟨j, j1, j2, j3⟩
            · omega
            · have a := (A1 (q - 1 - j) (by omega)).2
              have e : q - 1 - (q - 1 - j) = j := by omega
              rw [e] at a
              omega
          omega
        have k1 : kE r2.2.1 r.2.1 (-700) 2000 := ⟨hi, by omega, by omega⟩
        have k2 : kE r2.2.2 r.2.2 (-700) 2000 := ⟨lo, by omega, by omega⟩
        exact (k1.sub k2 (by decide) (by decide)).back.symm
def sumN (F : Nat → Int) : Nat → Int
  | 0 => 0
  | n + 1 => sumN F n + F n
theorem sumN_front (F : Nat → Int) : ∀ n : Nat, sumN F (n + 1) = F 0 + sumN (fun i => F (i + 1)) n := by
  intro n
  induction n with
  | zero => show 0 + F 0 = F 0 + 0; omega
  | succ n ih =>
    show sumN F (n + 1) + F (n + 1) = F 0 + (sumN (fun i => F (i + 1)) n + F (n + 1))
    rw [ih]
    omega
theorem sumN_cg {F G : Nat → Int} : ∀ n : Nat, (∀ i : Nat, i < n → F i = G i) → sumN F n = sumN G n := by
  intro n
  induction n with
  | zero => intro _; rfl
  | succ n ih =>
    intro h
    show sumN F n + F n = sumN G n + G n
    rw [ih (fun i hi => h i (by omega)), h n (by omega)]
theorem sumN_rev (H : Nat → Int) : ∀ n : Nat, sumN (fun b => H (n - 1 - b)) n = sumN H n := by
  intro n
  induction n with
  | zero => rfl
  | succ n ih =>
    rw [sumN_front]
    have e : sumN (fun i => H (n + 1 - 1 - (i + 1))) n = sumN (fun b => H (n - 1 - b)) n := sumN_cg n (fun i hi => congrArg H (by omega))
    rw [e, ih]
    show H n + sumN H n = sumN H n + H n
    omega
theorem sumN_bd {F : Nat → Int} : ∀ n : Nat, (∀ i : Nat, i < n → -700 ≤ F i ∧ F i ≤ 2000) → -(700 * (n : Int)) ≤ sumN F n ∧ sumN F n ≤ 2000 * (n : Int) := by
  intro n
  induction n with
  | zero => intro _; exact ⟨by show -(700 * ((0 : Nat) : Int)) ≤ 0; omega, by show (0 : Int) ≤ 2000 * ((0 : Nat) : Int); omega⟩
  | succ n ih =>
    intro h
    have a := ih (fun i hi => h i (by omega))
    have b := h n (by omega)
    refine ⟨?_, ?_⟩
    · show _ ≤ sumN F n + F n
      omega
    · show sumN F n + F n ≤ _
      omega
theorem mn_c {g c : Nat → Int32} {m : Nat} {F : Nat → Int} (hm : m ≤ 60) (lat : ∀ b : Nat, b < m → (s_X3_latest 60 g c (nI b)).toInt = F b) (bd : ∀ b : Nat, b < m → -700 ≤ F b ∧ F b ≤ 2000) : (kLoop default (b_X10_mean_L36 (nI m) g c) ((Int32.toInt (nI m) - Int32.toInt 0).toNat + 1) (0, 0)).2.toInt = sumN F m := by
  refine kLoop_inv (d := default) (b := b_X10_mean_L36 (nI m) g c) (fun z => ∃ i : Nat, i ≤ m ∧ z.1 = nI i ∧ z.2.toInt = sumN F i) (fun r => r.2.toInt = sumN F m) (fun z => m - z.1.toNatClampNeg) (fun x y hP hy => ?_) (fun x r hP hy => ?_) _ _ ?_ ⟨0, Nat.zero_le _, rfl, (show (0 : Int32).toInt = 0 by decide)⟩
  · obtain ⟨i, i1, i2, i3⟩ := hP
    unfold b_X10_mean_L36 b_X10_mean_1 at hy
    by_cases cc : nI m ≤ x.1
    · rw [if_pos cc] at hy; cases hy
    · rw [if_neg cc] at hy
      have hlt : i < m := by
        rcases Nat.lt_or_ge i m with q | q
        · exact q
        · exact absurd (by rw [i2]; exact nI_le q (by omega)) cc
      have li := lat i hlt
      rw [← i2] at li
      have hy := (Sum.inl.inj hy).symm
      subst hy
      have s1 := sumN_bd i (fun k hk => bd k (by omega))
      have s2 := bd i hlt
      refine ⟨⟨i + 1, hlt, ?_, ?_⟩, ?_⟩
      · show x.1 + 1 = _
        rw [i2, nI_succ]
      · show (x.2 + s_X3_latest 60 g c x.1).toInt = sumN F i + F i
        rw [Int32.toInt_add, i3, li, kn_bmod (by omega) (by omega)]
      · show m - (x.1 + 1).toNatClampNeg < m - x.1.toNatClampNeg
        rw [i2, ← nI_succ, nI_clamp (by omega), nI_clamp (by omega)]
        omega
  · obtain ⟨i, i1, i2, i3⟩ := hP
    unfold b_X10_mean_L36 b_X10_mean_1 at hy
    by_cases cc : nI m ≤ x.1
    · rw [if_pos cc] at hy
      have hy := (Sum.inr.inj hy).symm
      subst hy
      have hi : i = m := by
        rcases Nat.lt_or_ge i m with q | q
        · exact absurd cc (by rw [i2]; exact nI_ge q (by omega))
        · omega
      subst hi
      exact i3
    · rw [if_neg cc] at hy; cases hy
  · show m - (0 : Int32).toNatClampNeg < (Int32.toInt (nI m) - Int32.toInt 0).toNat + 1
    rw [show (0 : Int32).toNatClampNeg = 0 by decide, nI_toInt (by omega), show Int32.toInt 0 = 0 by decide]
    omega
theorem mn_r {w : Nat → Int64} {q m : Nat} {F : Nat → Int} (hq : q ≤ 60) (hm : m ≤ q) (h48 : w 48 = (nI q).toInt64) (hF : ∀ i : Nat, i < m → (w (234 + (q - m + i))).toInt = F i) (bd : ∀ i : Nat, i < m → -700 ≤ F i ∧ F i ≤ 2000) : (kLoop default (b_X11_mean_L33 w) ((60 - Int32.toInt (nI (q - m))).toNat + 1) (nI (q - m), 0)).2.toInt = sumN F m := by
  refine kLoop_inv (d := default) (b := b_X11_mean_L33 w) (fun z => ∃ i : Nat, i ≤ m ∧ z.1 = nI (q - m + i) ∧ z.2.toInt = sumN F i) (fun r => r.2.toInt = sumN F m) (fun z => q - z.1.toNatClampNeg) (fun x y hP hy => ?_) (fun x r hP hy => ?_) _ _ ?_ ⟨0, Nat.zero_le _, rfl, (show (0 : Int64).toInt = 0 by decide)⟩
  · obtain ⟨i, i1, i2, i3⟩ := hP
    unfold b_X11_mean_L33 at hy
    by_cases cc : w 48 ≤ Int32.toInt64 x.1
    · rw [if_pos cc] at hy; cases hy
    · rw [if_neg cc] at hy
      have hlt : i < m := by
        rcases Nat.lt_or_ge i m with k | k
        · exact k
        · exact absurd (by rw [i2, h48]; exact Int64.le_iff_toInt_le.mpr (by rw [nIL (by omega), nIL (by omega)]; omega)) cc
      have ei : (234 : Int32) + x.1 = nI (234 + (q - m + i)) := by rw [i2]; exact nI_plus (a := 234) (by omega)
      have li := hF i hlt
      rw [ei, nI_clamp (by omega)] at hy
      have hy := (Sum.inl.inj hy).symm
      subst hy
      have s1 := sumN_bd i (fun k hk => bd k (by omega))
      have s2 := bd i hlt
      refine ⟨⟨i + 1, hlt, ?_, ?_⟩, ?_⟩
      · show x.1 + 1 = _
        rw [i2, ← nI_succ]
        congr 1
      · show (x.2 + w (234 + (q - m + i))).toInt = sumN F i + F i
        rw [Int64.toInt_add, i3, li, kn_bmodL (by omega) (by omega)]
      · show q - (x.1 + 1).toNatClampNeg < q - x.1.toNatClampNeg
        rw [i2, ← nI_succ, nI_clamp (by omega), nI_clamp (by omega)]
        omega
  · obtain ⟨i, i1, i2, i3⟩ := hP
    unfold b_X11_mean_L33 at hy
    by_cases cc : w 48 ≤ Int32.toInt64 x.1
    · rw [if_pos cc] at hy
      have hy := (Sum.inr.inj hy).symm
      subst hy
      have hi : i = m := by
        have a := Int64.le_iff_toInt_le.mp cc
        rw [i2, h48, nIL (by omega), nIL (by omega)] at a
        omega
      subst hi
      exact i3
    · rw [if_neg cc] at hy; cases hy
  · show q - (nI (q - m)).toNatClampNeg < (60 - Int32.toInt (nI (q - m))).toNat + 1
    rw [nI_clamp (by omega), nI_toInt (by omega)]
    omega
theorem ok_mean {l : Launch} (hl0 : l.stackTraces = false) (D : va_G) (cI cJ cO cD : ClassId) (z : zT) {X : kXS} {Y : kTS} {M : kMS} (b o oD : Nat) (u : Nat → Nat) (fo : Nat → Int64) (fd : Nat → UInt64) (p0 : Int32) (h : rR X Y M) : lStepD l D cI cJ cO cD z yL_mean cL_mean 4 [(0, 8, 11, 15)] [.ref b, .int p0, .ref oD] b o oD u X Y fo fd (a_mean M p0) ((q_mean M p0).1 7) := by
  obtain ⟨T, hT1, hT2, hr, hn⟩ := id h.1
  have e1 : s_X11_in p0.toInt64 1 60 = s_X10_isWithin p0 1 60 := inW (kE.lit (a := 1) (x := 1) (n := 1) (by decide) (by decide)) (kE.lit (a := 60) (x := 60) (n := 60) (by decide) (by decide))
  by_cases v : s_X10_isWithin p0 1 60 = 0
  · refine ⟨8, 130, 1, fd, by decide, by decide, w_mean_1 l hl0 D cI cJ cO cD z b o oD u X Y fo fd p0 v, ?_, fun y => absurd y (by decide)⟩
    unfold q_mean s_X11_mean s_X11_mean_1 s_X11_refuse
    rw [if_pos (e1.trans v)]
    show upd (upd M.1 7 0) 7 1 7 = 1
    exact ups
  · have c1 : ¬ s_X11_in p0.toInt64 1 60 = 0 := by rw [e1]; exact v
    have hp : 1 ≤ p0.toInt ∧ p0.toInt ≤ 60 := wi_yes v
    obtain ⟨q, hq60, h48, h92, lat, bnd⟩ := hs_q hr
    obtain ⟨m, m1, m2, m3, m4⟩ := hs_m (f := upd M.1 7 0) hq60 h48 h92 hp
    have z48 : (M.2.1 48 = 0) = (q = 0) := by
      rw [h48]
      refine propext ⟨fun y => nIL_inj (by omega) (by decide) y, fun y => by rw [y]; rfl⟩
    have core : r_mean X p0 = a_mean M p0 ∧ vf_n64 (a_mean M p0) ∧ (q_mean M p0).1 7 = 0 := by
      unfold r_mean s_X10_mean s_X10_mean_3 s_X10_mean_2 a_mean q_mean s_X11_mean s_X11_mean_2
      rw [if_neg c1, m3, m4]
      by_cases c : q = 0
      · have cm : m = 0 := by omega
        rw [if_pos (show nI m = 0 by rw [cm]; rfl), if_pos (pT z48 c)]
        exact ⟨rfl, (show FP.dconst0 &&& 0x7fffffffffffffff ≤ 0x7ff0000000000000 by decide), (show upd M.1 7 0 7 = 0 from ups)⟩
      · have cm : ¬ m = 0 := by omega
        rw [if_neg (show ¬ nI m = 0 from fun y => cm (nI_inj (b := 0) (by omega) (by decide) y)), if_neg (pTn z48 c)]
        have A := mn_c (g := X.1 9) (c := X.1 25) (m := m) (F := fun b => (M.2.1 (234 + (q - 1 - b))).toInt) (by omega) (fun b hb => lat b (by omega)) (fun b hb => bnd (q - 1 - b) (by omega))
        have B := mn_r (w := M.2.1) (q := q) (m := m) (F := fun i => (M.2.1 (234 + (q - m + i))).toInt) hq60 m1 h48 (fun i _ => rfl) (fun i hi => bnd (q - m + i) (by omega))
        have rv := sumN_rev (fun i => (M.2.1 (234 + (q - m + i))).toInt) m
        have ec : sumN (fun b => (M.2.1 (234 + (q - 1 - b))).toInt) m = sumN (fun b => (M.2.1 (234 + (q - m + (m - 1 - b)))).toInt) m := sumN_cg m (fun i hi => congrArg (fun k => (M.2.1 (234 + k)).toInt) (by omega))
        generalize (kLoop default (b_X10_mean_L36 (nI m) (X.1 9) (X.1 25)) ((Int32.toInt (nI m) - Int32.toInt 0).toNat + 1) (0, 0)) = r at A ⊢
        generalize (kLoop default (b_X11_mean_L33 M.2.1) ((60 - Int32.toInt (nI (q - m))).toNat + 1) (nI (q - m), 0)) = r2 at B ⊢
        have es : r.2.toInt = r2.2.toInt := by rw [A, B, ec, rv]
        have en : (nI m).toInt = (M.2.1 48 - (nI (q - m)).toInt64).toInt := by
          rw [h48, Int64.toInt_sub, nIL (by omega), nIL (by omega), nI_toInt (by omega), kn_bmodL (by omega) (by omega)]
          omega
        rw [fp_i2l es, fp_i2l en]
        refine ⟨rfl, k_qL (fun y => ?_), (show upd M.1 7 0 7 = 0 from ups)⟩
        rw [y, nI_toInt (by omega)] at en
        have : (0 : Int64).toInt = 0 := by decide
        omega
    refine ⟨3, 70, 0, vf_upd fd 0 (r_mean X p0), by decide, by decide, w_mean_0 l hl0 D cI cJ cO cD z b o oD u X Y fo fd p0 v, core.2.2, fun _ => ⟨?_, core.2.1⟩⟩
    rw [← core.1]
    unfold vf_upd
    exact if_pos rfl
theorem ok_mean2 {X : kXS} {Y : kTS} {M : kMS} (p0 : Int32) (h : rR X Y M) : rR X Y (q_mean M p0) := by
  refine h.same ?_ ?_ rfl rfl rfl
  all_goals
    unfold q_mean s_X11_mean s_X11_mean_1 s_X11_mean_2 s_X11_refuse
    by_cases c : s_X11_in p0.toInt64 1 60 = 0
    · rw [if_pos c]
      rfl
    · rw [if_neg c]
      by_cases c2 : M.2.1 48 = 0
      · rw [if_pos c2]
        rfl
      · rw [if_neg c2]
        rfl
