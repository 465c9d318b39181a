/-! whole numbers within bounds -/
def kIn (x : Int32) (a b : Int) : Prop := a ≤ x.toInt ∧ x.toInt ≤ b
def kInL (x : Int64) (a b : Int) : Prop := a ≤ x.toInt ∧ x.toInt ≤ b
theorem kn_bmod {z : Int} (h1 : -2147483648 ≤ z) (h2 : z < 2147483648) : z.bmod (2 ^ 32) = z := by
  rw [Int.bmod_eq_of_le (by omega) (by omega)]
theorem kn_bmodL {z : Int} (h1 : -9223372036854775808 ≤ z) (h2 : z < 9223372036854775808) : z.bmod (2 ^ 64) = z := by
  rw [Int.bmod_eq_of_le (by omega) (by omega)]
theorem kn_rng (x : Int32) : -2147483648 ≤ x.toInt ∧ x.toInt < 2147483648 := by
  have h1 := Int32.le_toInt x
  have h2 := Int32.toInt_lt x
  omega
theorem kn_rngL (x : Int64) : -9223372036854775808 ≤ x.toInt ∧ x.toInt < 9223372036854775808 := by
  have h1 := Int64.le_toInt x
  have h2 := Int64.toInt_lt x
  omega
theorem kIn.lit {x : Int32} {n : Int} (h : x.toInt = n) : kIn x n n := ⟨by omega, by omega⟩
theorem kInL.lit {x : Int64} {n : Int} (h : x.toInt = n) : kInL x n n := ⟨by omega, by omega⟩
theorem kIn.wk {x : Int32} {a b c d : Int} (h : kIn x a b) (h1 : c ≤ a) (h2 : b ≤ d) : kIn x c d := ⟨Int.le_trans h1 h.1, Int.le_trans h.2 h2⟩
theorem kInL.wk {x : Int64} {a b c d : Int} (h : kInL x a b) (h1 : c ≤ a) (h2 : b ≤ d) : kInL x c d := ⟨Int.le_trans h1 h.1, Int.le_trans h.2 h2⟩
theorem kIn.add {x y : Int32} {a b c d : Int} (h : kIn x a b) (k : kIn y c d) (h1 : -2147483648 ≤ a + c) (h2 : b + d < 2147483648) : kIn (x + y) (a + c) (b + d) := by
  obtain ⟨p1, p2⟩ := h
  obtain ⟨q1, q2⟩ := k
  unfold kIn
  rw [Int32.toInt_add, kn_bmod (by omega) (by omega)]
  omega
theorem kIn.sub {x y : Int32} {a b c d : Int} (h : kIn x a b) (k : kIn y c d) (h1 : -2147483648 ≤ a - d) (h2 : b - c < 2147483648) : kIn (x - y) (a - d) (b - c) := by
  obtain ⟨p1, p2⟩ := h
  obtain ⟨q1, q2⟩ := k
  unfold kIn
  rw [Int32.toInt_sub, kn_bmod (by omega) (by omega)]
  omega
theorem kIn.mul {x y : Int32} {n a b : Int} (hx : x.toInt = n) (hn : 0 ≤ n) (k : kIn y a b) (h1 : -2147483648 ≤ n * a) (h2 : n * b < 2147483648) : kIn (x * y) (n * a) (n * b) := by
  obtain ⟨q1, q2⟩ := k
  have e1 : n * a ≤ n * y.toInt := Int.mul_le_mul_of_nonneg_left q1 hn
  have e2 : n * y.toInt ≤ n * b := Int.mul_le_mul_of_nonneg_left q2 hn
  unfold kIn
  rw [Int32.toInt_mul, hx, kn_bmod (by omega) (by omega)]
  exact ⟨e1, e2⟩
theorem kInL.add {x y : Int64} {a b c d : Int} (h : kInL x a b) (k : kInL y c d) (h1 : -9223372036854775808 ≤ a + c) (h2 : b + d < 9223372036854775808) : kInL (x + y) (a + c) (b + d) := by
  obtain ⟨p1, p2⟩ := h
  obtain ⟨q1, q2⟩ := k
  unfold kInL
  rw [Int64.toInt_add, kn_bmodL (by omega) (by omega)]
  omega
theorem kInL.sub {x y : Int64} {a b c d : Int} (h : kInL x a b) (k : kInL y c d) (h1 : -9223372036854775808 ≤ a - d) (h2 : b - c < 9223372036854775808) : kInL (x - y) (a - d) (b - c) := by
  obtain ⟨p1, p2⟩ := h
  obtain ⟨q1, q2⟩ := k
  unfold kInL
  rw [Int64.toInt_sub, kn_bmodL (by omega) (by omega)]
  omega
theorem kIn.l2i {x : Int64} {a b : Int} (h : kInL x a b) (h1 : -2147483648 ≤ a) (h2 : b < 2147483648) : kIn x.toInt32 a b := by
  obtain ⟨p1, p2⟩ := h
  unfold kIn
  rw [Int64.toInt_toInt32, kn_bmod (by omega) (by omega)]
  exact ⟨p1, p2⟩
theorem kInL.i2l {x : Int32} {a b : Int} (h : kIn x a b) : kInL x.toInt64 a b := by
  unfold kInL
  rw [Int32.toInt_toInt64]
  exact h
theorem kIn.vp {x : Int32} {a b : Int} {n : Nat} (h : kIn x a b) (h1 : 0 ≤ a) (h2 : b < (n : Int)) : vp_in x n := vp_in_iff.mpr ⟨Int.le_trans h1 h.1, Int.lt_of_le_of_lt h.2 h2⟩
theorem kIn.nat {x : Int32} {a b : Int} (h : kIn x a b) (h1 : 0 ≤ a) : (x.toNatClampNeg : Int) = x.toInt := by
  show ((x.toInt.toNat : Nat) : Int) = x.toInt
  have := h.1
  omega
theorem kIn.ne {x : Int32} {a b : Int} {k : Nat} (h : kIn x a b) (h1 : 0 ≤ a) (h2 : (k : Int) < a ∨ b < (k : Int)) : k ≠ x.toNatClampNeg := by
  intro e
  have h3 := h.nat h1
  have h4 := h.1
  have h5 := h.2
  rw [← e] at h3
  omega
theorem kInL.neHi {x y : Int64} {a b : Int} (h : kInL x a b) (hne : ¬ x = y) (hy : y.toInt = b) : kInL x a (b - 1) := by
  refine ⟨h.1, ?_⟩
  have h2 := h.2
  have h3 : ¬ x.toInt = y.toInt := fun z => hne (Int64.toInt_inj.mp z)
  omega
theorem kInL.neLo {x y : Int64} {a b : Int} (h : kInL x a b) (hne : ¬ x = y) (hy : y.toInt = a) : kInL x (a + 1) b := by
  refine ⟨?_, h.2⟩
  have h2 := h.1
  have h3 : ¬ x.toInt = y.toInt := fun z => hne (Int64.toInt_inj.mp z)
  omega
theorem kInL.eq {x y : Int64} {n : Int} (h : x = y) (hy : y.toInt = n) : kInL x n n := by rw [h]; exact kInL.lit hy
theorem kIn.lt {x y : Int32} {a b : Int} (h : kIn x a b) (hlt : x < y) {n : Int} (hy : y.toInt = n) : kIn x a (n - 1) := by
  have := Int32.lt_iff_toInt_lt.mp hlt
  exact ⟨h.1, by omega⟩
theorem kIn.any (x : Int32) : kIn x (-2147483648) 2147483647 := by
  have := kn_rng x
  exact ⟨by omega, by omega⟩
theorem kIn.nlt {x y : Int32} {a b : Int} (h : kIn x a b) (hlt : ¬ x < y) {n : Int} (hy : y.toInt = n) : kIn x n b := by
  have : ¬ x.toInt < y.toInt := fun z => hlt (Int32.lt_iff_toInt_lt.mpr z)
  exact ⟨by omega, h.2⟩
theorem kIn.le {x y : Int32} {a b : Int} (h : kIn x a b) (hlt : x ≤ y) {n : Int} (hy : y.toInt = n) : kIn x a n := by
  have := Int32.le_iff_toInt_le.mp hlt
  exact ⟨h.1, by omega⟩
theorem kIn.nle {x y : Int32} {a b : Int} (h : kIn x a b) (hlt : ¬ y ≤ x) {n : Int} (hy : y.toInt = n) : kIn x a (n - 1) := by
  have : ¬ y.toInt ≤ x.toInt := fun z => hlt (Int32.le_iff_toInt_le.mpr z)
  exact ⟨h.1, by omega⟩
theorem kInL.rw {F : Nat → Int64} {k : Nat} {t : Int64} {a b c d : Int} (e : F k = t) (h : kInL t a b) (h1 : c ≤ a) (h2 : b ≤ d) : kInL (F k) c d := by rw [e]; exact h.wk h1 h2
