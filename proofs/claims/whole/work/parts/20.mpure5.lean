/-! what the trials leave; bounds of the reader -/
theorem kIn.meet {x : Int32} {a b c d : Int} (h : kIn x a b) (k : kIn x c d) : kIn x a d := ⟨h.1, k.2⟩
theorem kIn.nleB {x y : Int32} {a b c d : Int} (h : kIn x a b) (k : kIn y c d) (hlt : ¬ y ≤ x) : kIn x a (d - 1) := by
  have : ¬ y.toInt ≤ x.toInt := fun z => hlt (Int32.le_iff_toInt_le.mpr z)
  exact ⟨h.1, by have := k.2; omega⟩
theorem kIn.nleLo {x y : Int32} {a b : Int} (h : kIn x a b) (hlt : ¬ x ≤ y) {n : Int} (hy : y.toInt = n) : kIn x (n + 1) b := by
  have : ¬ x.toInt ≤ y.toInt := fun z => hlt (Int32.le_iff_toInt_le.mpr z)
  exact ⟨by omega, h.2⟩
theorem kIn.seg11 {x y : Int32} (h : kIn ((4 * x) + y) 0 48) (hx : kIn x 0 12) (hy : y = 4) : kIn x 0 11 := by
  have h1 := kIn.add (kIn.mul (x := 4) (n := 4) (by decide) (by decide) hx (by decide) (by decide)) (kIn.eq hy (n := 4) (by decide)) (by decide) (by decide)
  have h2 := hx.1
  have h3 := hx.2
  have e1 : ((4 * x) + y).toInt = 4 * x.toInt + 4 := by
    rw [hy, Int32.toInt_add, Int32.toInt_mul, show (4 : Int32).toInt = 4 by decide, kn_bmod (z := 4 * x.toInt) (by omega) (by omega), kn_bmod (by omega) (by omega)]
  have h4 := h.2
  rw [e1] at h4
  exact ⟨h2, by omega⟩
/-- a loop that lays one row over another -/
theorem kLay (N : Nat) (src dst : Nat → Int64) (b : Int32 × (Nat → Int64) → (Int32 × (Nat → Int64)) ⊕ (Int32 × (Nat → Int64))) (hb : ∀ z, b z = if nI N ≤ z.1 then .inr (z.1, z.2) else .inl (z.1 + 1, vp_updL z.2 (Int32.toNatClampNeg z.1) (src (Int32.toNatClampNeg z.1)))) (hN : N < 2 ^ 31) (D0 : Int32 × (Nat → Int64)) (k : Nat) : (kLoop D0 b (N + 1) (0, dst)).2 k = if k < N then src k else dst k := by
  refine kLoop_inv (d := D0) (b := b) (fun z => ∃ i : Nat, i ≤ N ∧ z.1 = nI i ∧ ∀ k, z.2 k = if k < i then src k else dst k) (fun r => r.2 k = if k < N then src k else dst k) (fun z => N - z.1.toNatClampNeg) ?_ ?_ (N + 1) (0, dst) (by show N - _ < N + 1; omega) ⟨0, Nat.zero_le _, nI_0.symm, fun k => by rw [if_neg (by omega)]⟩
  · intro x y hP hy
    obtain ⟨i, hi, hx, hk⟩ := hP
    rw [hb] at hy
    by_cases hc : nI N ≤ x.1
    · rw [if_pos hc] at hy; cases hy
    · rw [if_neg hc] at hy
      have hy := (Sum.inl.inj hy).symm
      subst hy
      rw [hx] at hc
      have hlt : i < N := by
        rcases Nat.lt_or_ge i N with q | q
        · exact q
        · exact absurd ((nI_leI (by omega) (by omega)).mpr q) hc
      have c1 : (nI i).toNatClampNeg = i := nI_clamp (by omega)
      refine ⟨⟨i + 1, hlt, by show x.1 + 1 = _; rw [hx, nI_1], fun k => ?_⟩, ?_⟩
      · show vp_updL x.2 (Int32.toNatClampNeg x.1) (src (Int32.toNatClampNeg x.1)) k = _
        rw [hx, c1]
        unfold vp_updL
        by_cases hki : k = i
        · rw [if_pos hki, if_pos (by omega), hki]
        · rw [if_neg hki, hk]
          by_cases hr : k < i
          · rw [if_pos hr, if_pos (by omega)]
          · rw [if_neg hr, if_neg (by omega)]
      · show N - (x.1 + 1).toNatClampNeg < N - x.1.toNatClampNeg
        rw [hx, nI_1, nI_clamp (by omega), nI_clamp (by omega)]
        omega
  · intro x r hP hr
    obtain ⟨i, hi, hx, hk⟩ := hP
    rw [hb] at hr
    by_cases hc : nI N ≤ x.1
    · rw [if_pos hc] at hr
      have hr := (Sum.inr.inj hr).symm
      subst hr
      rw [hx] at hc
      have hge : N ≤ i := (nI_leI (by omega) (by omega)).mp hc
      have : i = N := by omega
      subst this
      exact hk k
    · rw [if_neg hc] at hr; cases hr
theorem bt_at (f : Nat → Int32) (w t : Nat → Int64) (k : Nat) : s_X11_beginTrial f w t k = if k < 294 then w k else t k := by
  unfold s_X11_beginTrial s_X11_beginTrial_1
  have e : (Int32.toInt 294 - Int32.toInt 0).toNat + 1 = 294 + 1 := by decide
  rw [e]
  refine kLay 294 w t _ (fun z => ?_) (by omega) default k
  unfold b_X11_beginTrial_L2
  rw [show (294 : Int32) = nI 294 from rfl]
theorem et_at (f : Nat → Int32) (t w : Nat → Int64) (k : Nat) : s_X11_endTrial f t w k = if k < 294 then t k else w k := by
  unfold s_X11_endTrial s_X11_endTrial_1
  have e : (Int32.toInt 294 - Int32.toInt 0).toNat + 1 = 294 + 1 := by decide
  rw [e]
  refine kLay 294 t w _ (fun z => ?_) (by omega) default k
  unfold b_X11_endTrial_L2
  rw [show (294 : Int32) = nI 294 from rfl]
/-- the reader's numbers, within their bounds -/
def kTI (f : Nat → Int32) : Prop := kIn (f 6) 0 90 ∧ kIn (f 8) 0 12 ∧ kIn (f 9) 0 4 ∧ kIn ((4 * (f 8)) + (f 9)) 0 48
