/-! a bound that goes down -/
theorem kIn.dec {i : Int32} {a b N : Int} {n : Nat} (h : kIn i a b) (hb : b < N) (hN : N < 2147483648) (hm : (N - i.toInt).toNat < n + 1) : (N - (i + 1).toInt).toNat < n := by
  have h4 : (i + 1).toInt = i.toInt + 1 := by
    rw [Int32.toInt_add]
    have : (1 : Int32).toInt = 1 := by decide
    rw [this]
    have h6 : -2 ^ 31 ≤ i.toInt := Int32.le_toInt i
    have := h.2
    exact Int.bmod_eq_of_le (by omega) (by omega)
  have := h.2
  omega
