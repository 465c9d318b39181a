/-! bounds out of the reference's own tests -/
theorem kLnle {x y : Int64} (h : ¬ x ≤ y) : y < x := by
  have : ¬ x.toInt ≤ y.toInt := fun z => h (Int64.le_iff_toInt_le.mpr z)
  exact Int64.lt_iff_toInt_lt.mpr (by omega)
theorem in_iff {x a b : Int64} : s_X11_in x a b = (if a ≤ x ∧ x ≤ b then 1 else 0) := by
  unfold s_X11_in
  by_cases h1 : a ≤ x
  · by_cases h2 : x ≤ b
    · simp [h1, h2, Int64.not_lt.mpr h1, Int64.not_lt.mpr h2]
    · simp [h1, h2, Int64.not_lt.mpr h1, Int64.not_le.mp h2]
  · simp [h1, Int64.not_le.mp h1]
theorem kIn.inb {x : Int32} {A B : Int64} {a1 a2 b1 b2 : Int} (h : ¬ s_X11_in x.toInt64 A B = 0) (ha : kInL A a1 a2) (hb : kInL B b1 b2) : kIn x a1 b2 := by
  rw [in_iff] at h
  by_cases hc : A ≤ x.toInt64 ∧ x.toInt64 ≤ B
  · have h1 := Int64.le_iff_toInt_le.mp hc.1
    have h2 := Int64.le_iff_toInt_le.mp hc.2
    rw [Int32.toInt_toInt64] at h1 h2
    exact ⟨by have := ha.1; omega, by have := hb.2; omega⟩
  · rw [if_neg hc] at h; exact absurd rfl h
theorem kIn.i2lLt {x : Int32} {e : Int64} {a b c d : Int} (h : kIn x a b) (hlt : x.toInt64 < e) (k : kInL e c d) : kIn x a (d - 1) := by
  have := Int64.lt_iff_toInt_lt.mp hlt
  rw [Int32.toInt_toInt64] at this
  exact ⟨h.1, by have := k.2; omega⟩
theorem kIn.i2lNle {x : Int32} {e : Int64} {a b c d : Int} (h : kIn x a b) (hlt : ¬ e ≤ x.toInt64) (k : kInL e c d) : kIn x a (d - 1) := kIn.i2lLt h (kLnle hlt) k
theorem kIn.back {m : Int64} {x : Int32} {lo hi : Int} (h : kInL m lo hi) (h0 : ¬ x < 0) (hlt : x.toInt64 < m) (hh : -1000 ≤ lo ∧ hi ≤ 1000) : kIn ((Int64.toInt32 m - 1) - x) 0 (hi - 1) := by
  have h1 := Int64.lt_iff_toInt_lt.mp hlt
  rw [Int32.toInt_toInt64] at h1
  have h2 : ¬ x.toInt < (0 : Int32).toInt := fun z => h0 (Int32.lt_iff_toInt_lt.mpr z)
  have h3 : (0 : Int32).toInt = 0 := by decide
  have hx : kIn x 0 (m.toInt - 1) := ⟨by omega, by omega⟩
  have hm : kIn (Int64.toInt32 m) m.toInt m.toInt := kIn.l2i ⟨Int.le_refl _, Int.le_refl _⟩ (by have := h.1; omega) (by have := h.2; omega)
  have h4 := kIn.sub (kIn.sub hm (kIn.lit (x := 1) (n := 1) (by decide)) (by have := h.1; omega) (by have := h.2; omega)) hx (by have := h.1; omega) (by have := h.2; omega)
  exact ⟨by have := h4.1; omega, by have := h4.2; have := h.2; omega⟩
theorem kIn.back2 {m : Int64} {x B : Int32} {lo hi n : Int} (hB : B.toInt = n) (hn : 0 ≤ n ∧ n ≤ 1000) (h : kInL m lo hi) (h0 : ¬ x < 0) (hlt : x.toInt64 < m) (hh : -1000 ≤ lo ∧ hi ≤ 1000) : kIn (((B + Int64.toInt32 m) - 1) - x) n (n + hi - 1) := by
  have h1 := Int64.lt_iff_toInt_lt.mp hlt
  rw [Int32.toInt_toInt64] at h1
  have h2 : ¬ x.toInt < (0 : Int32).toInt := fun z => h0 (Int32.lt_iff_toInt_lt.mpr z)
  have h3 : (0 : Int32).toInt = 0 := by decide
  have hx : kIn x 0 (m.toInt - 1) := ⟨by omega, by omega⟩
  have hm : kIn (Int64.toInt32 m) m.toInt m.toInt := kIn.l2i ⟨Int.le_refl _, Int.le_refl _⟩ (by have := h.1; omega) (by have := h.2; omega)
  have hs := kIn.add (kIn.lit hB) hm (by have := h.1; omega) (by have := h.2; omega)
  have h4 := kIn.sub (kIn.sub hs (kIn.lit (x := 1) (n := 1) (by decide)) (by have := h.1; omega) (by have := h.2; omega)) hx (by have := h.1; omega) (by have := h.2; omega)
  exact ⟨by have := h4.1; omega, by have := h4.2; have := h.2; omega⟩
theorem kInL.mul {x y : Int64} {n a b : Int} (hx : x.toInt = n) (hn : 0 ≤ n) (k : kInL y a b) (h1 : -9223372036854775808 ≤ n * a) (h2 : n * b < 9223372036854775808) : kInL (x * y) (n * a) (n * b) := by
  obtain ⟨q1, q2⟩ := k
  have e1 : n * a ≤ n * y.toInt := Int.mul_le_mul_of_nonneg_left q1 hn
  have e2 : n * y.toInt ≤ n * b := Int.mul_le_mul_of_nonneg_left q2 hn
  unfold kInL
  rw [Int64.toInt_mul, hx, kn_bmodL (by omega) (by omega)]
  exact ⟨e1, e2⟩
theorem kIn.dec {i : Int32} {a b N : Int} {n : Nat} (h : kIn i a b) (hb : b < N) (hN : N < 2147483648) (hm : (N - i.toInt).toNat < n + 1) : (N - (i + 1).toInt).toNat < n := by
  have h4 : (i + 1).toInt = i.toInt + 1 := by
    rw [Int32.toInt_add]
    have : (1 : Int32).toInt = 1 := by decide
    rw [this]
    have h6 : -2 ^ 31 ≤ i.toInt := Int32.le_toInt i
    have := h.2
    exact Int.bmod_eq_of_le (by omega) (by omega)
  have := h.2
  omega
theorem kIn.geB {x y : Int32} {a b : Int} (h : kIn x a b) (hlt : y ≤ x) {n : Int} (hy : y.toInt = n) : kIn x n b := by
  have := Int32.le_iff_toInt_le.mp hlt
  exact ⟨by omega, h.2⟩
theorem ly_at {x : Int32} (h : kIn x 0 11) {j : Int32} {n : Int} (hj : j.toInt = n) (h0 : 0 ≤ n) (h2 : n ≤ 3) : kIn (50 + (4 * x) + j) 50 97 :=
  (kIn.add (kIn.add (kIn.lit (x := 50) (n := 50) (by decide)) (kIn.mul (n := 4) (by decide) (by decide) h (by decide) (by decide)) (by decide) (by decide)) (kIn.lit hj) (by omega) (by omega)).wk (by omega) (by omega)
theorem ly_at0 {x : Int32} (h : kIn x 0 11) : kIn (50 + (4 * x)) 50 94 :=
  (kIn.add (kIn.lit (x := 50) (n := 50) (by decide)) (kIn.mul (n := 4) (by decide) (by decide) h (by decide) (by decide)) (by decide) (by decide)).wk (by decide) (by decide)
theorem fr_X11_lay (f_t : Nat → Int32) (w : Nat → Int64) (p0 p1 p2 p3 p4 : Int32) (h : kIn p0 0 11) : ∀ k : Nat, (k < 50 ∨ 98 ≤ k) → s_X11_lay f_t w p0 p1 p2 p3 p4 k = w k := by
  intro k hk
  unfold s_X11_lay
  exact upnL ((ly_at h (j := 3) (n := 3) (by decide) (by decide) (by decide)).ne (by decide) (by omega)) (upnL ((ly_at h (j := 2) (n := 2) (by decide) (by decide) (by decide)).ne (by decide) (by omega)) (upnL ((ly_at h (j := 1) (n := 1) (by decide) (by decide) (by decide)).ne (by decide) (by omega)) (upnL ((ly_at0 h).ne (by decide) (by omega)) rfl)))
/-- what the reference's row must keep, lest it reads beside its rows -/
def kMI (f : Nat → Int32) (w : Nat → Int64) : Prop := kInL (w 35) 0 11 ∧ kInL (w 43) 0 12 ∧ kInL (w 45) 0 16 ∧ kInL (w 46) 0 24 ∧ kInL (w 48) 0 60 ∧ (w 33 = 1 → ¬ s_X11_of_p0_2 f w = 0)
