/-! rings against shifted rows -/
theorem kIx {n : Nat} (h : n < 2 ^ 31) : kIn (nI n) n n := ⟨by rw [nI_toInt h]; exact Int.le_refl _, by rw [nI_toInt h]; exact Int.le_refl _⟩
theorem nI_kin {x : Int32} {n : Nat} (h : kIn x n n) (hn : n < 2 ^ 31) : x = nI n := Int32.toInt_inj.mp (by rw [nI_toInt hn]; have := h.1; have := h.2; omega)
theorem nI_minus {a b : Nat} (h : b ≤ a) (ha : a < 2 ^ 31) : nI a - nI b = nI (a - b) := by
  have k := kIn.sub (kIx ha) (kIx (n := b) (by omega)) (by omega) (by omega)
  refine nI_kin ⟨?_, ?_⟩ (by omega)
  · have := k.1; omega
  · have := k.2; omega
theorem nI_plus {a b : Nat} (h : a + b < 2 ^ 31) : nI a + nI b = nI (a + b) := by
  have k := kIn.add (kIx (n := a) (by omega)) (kIx (n := b) (by omega)) (by omega) (by omega)
  refine nI_kin ⟨?_, ?_⟩ (by omega)
  · have := k.1; omega
  · have := k.2; omega
theorem at_nI {N k : Nat} {cells : Nat → Int32} (h : k < N) (hN : N < 2 ^ 31) : s_X10_at N cells (nI k) = cells k := by
  unfold s_X10_at s_X10_at_1
  rw [if_neg (nI_pos (by omega)), if_neg (nI_ge h hN), nI_clamp (by omega)]
def rgR (N : Nat) (g cells : Nat → Int32) (many : Int64) (row : Nat → Int64) : Prop := ∃ p q : Nat, p < N ∧ q ≤ N ∧ g 1 = nI p ∧ g 2 = nI q ∧ many = (nI q).toInt64 ∧ ∀ b : Nat, b < q → row (q - 1 - b) = (cells ((p + N - 1 - b) % N)).toInt64
theorem latest_nI {N p q b : Nat} {g cells : Nat → Int32} (hN : N < 2 ^ 30) (hp : p < N) (hq : q ≤ N) (h1 : g 1 = nI p) (h2 : g 2 = nI q) (hb : b < q) : s_X3_latest N g cells (nI b) = cells ((p + N - 1 - b) % N) := by
  unfold s_X3_latest s_X3_latest_1
  rw [h1, h2, if_neg (nI_pos (by omega)), if_pos (nI_lt hb (by omega))]
  have e1 : (1 : Int32) = nI 1 := by decide
  by_cases h : b + 1 ≤ p
  · rw [e1, nI_minus (by omega) (by omega), nI_minus (by omega) (by omega), if_pos (nI_pos' (by omega)), at_nI (by omega) (by omega)]
    rw [show p + N - 1 - b = N + (p - 1 - b) by omega, Nat.add_mod_left, Nat.mod_eq_of_lt (by omega)]
  · have k := kIn.sub (kIn.sub (kIx (n := p) (by omega)) (kIn.lit (x := 1) (n := 1) (by decide)) (by omega) (by omega)) (kIx (n := b) (by omega)) (by omega) (by omega)
    have hn : ¬ 0 ≤ nI p - 1 - nI b := fun z => by
      have a := Int32.le_iff_toInt_le.mp z
      rw [Int32.toInt_zero] at a
      have := k.2
      omega
    rw [if_neg hn]
    have k2 := kIn.add k (kIx (n := N) (by omega)) (by omega) (by omega)
    have e : nI p - 1 - nI b + nI N = nI (p + N - 1 - b) := nI_kin ⟨by have := k2.1; omega, by have := k2.2; omega⟩ (by omega)
    rw [e, at_nI (by omega) (by omega), Nat.mod_eq_of_lt (by omega)]
theorem latest_out {N : Nat} {g cells : Nat → Int32} {x : Int32} (h : x < 0 ∨ ¬ x < g 2) : s_X3_latest N g cells x = -10000 := by
  unfold s_X3_latest
  by_cases h0 : x < 0
  · rw [if_pos h0]
  · rw [if_neg h0, if_neg (h.resolve_left h0)]
theorem md_lt {a N : Nat} (h : a < N) : (N + a) % N = a := by rw [Nat.add_mod_left, Nat.mod_eq_of_lt h]
theorem add_nI {N p q : Nat} {g cells : Nat → Int32} {x : Int32} (hN : N < 2 ^ 30) (hp : p < N) (hq : q ≤ N) (h1 : g 1 = nI p) (h2 : g 2 = nI q) : s_X3_add N g cells x = (upd (upd g 1 (nI (if p + 1 = N then 0 else p + 1))) 2 (nI (if q = N then N else q + 1)), upd cells p x) := by
  have e1 : (1 : Int32) = nI 1 := by decide
  unfold s_X3_add s_X3_add_1
  rw [h1, h2, if_neg (nI_pos (by omega)), if_pos (nI_lt hp (by omega)), e1, nI_plus (by omega), nI_plus (by omega), nI_clamp (by omega)]
  have a1 : (if nI N ≤ nI (p + 1) then (0 : Int32) else nI (p + 1)) = nI (if p + 1 = N then 0 else p + 1) := by
    by_cases h : p + 1 = N
    · rw [if_pos h, if_pos (nI_le (by omega) (by omega))]; decide
    · rw [if_neg h, if_neg (nI_ge (by omega) (by omega))]
  rw [a1]
  by_cases h : q = N
  · rw [if_pos h, if_pos (nI_le (by omega) (by omega))]
    have e2 : upd (upd g 1 (nI (if p + 1 = N then 0 else p + 1))) 2 (nI N) = upd g 1 (nI (if p + 1 = N then 0 else p + 1)) := by
      funext i
      by_cases hi : i = 2
      · subst hi
        rw [ups, upn (by decide) rfl, h2, h]
      · rw [upn hi rfl]
    rw [e2]
  · rw [if_neg h, if_neg (nI_ge (by omega) (by omega))]
theorem rg_add {N p q : Nat} {g cells : Nat → Int32} {row row2 : Nat → Int64} {x : Int32} {many2 : Int64} (hN : N < 2 ^ 30) (hp : p < N) (hq : q ≤ N) (h1 : g 1 = nI p) (h2 : g 2 = nI q) (hrow : ∀ b : Nat, b < q → row (q - 1 - b) = (cells ((p + N - 1 - b) % N)).toInt64) (hm : many2 = (nI (if q = N then N else q + 1)).toInt64) (hr : ∀ i : Nat, i + 1 < (if q = N then N else q + 1) → row2 i = row (i + (if q = N then 1 else 0))) (hx : row2 ((if q = N then N else q + 1) - 1) = x.toInt64) : rgR N (s_X3_add N g cells x).1 (s_X3_add N g cells x).2 many2 row2 := by
  rw [add_nI hN hp hq h1 h2]
  show rgR N (upd (upd g 1 (nI (if p + 1 = N then 0 else p + 1))) 2 (nI (if q = N then N else q + 1))) (upd cells p x) many2 row2
  refine ⟨if p + 1 = N then 0 else p + 1, if q = N then N else q + 1, by split <;> omega, by split <;> omega, upn (by decide) ups, ups, hm, fun b hb => ?_⟩
  show row2 _ = (upd cells p x _).toInt64
  have hi : ((if p + 1 = N then 0 else p + 1) + N - 1 - b) % N = (p + N - b) % N := by
    split
    · by_cases hb2 : b < N
      · rw [show p + N - b = N + (0 + N - 1 - b) by omega, md_lt (by omega), Nat.mod_eq_of_lt (by omega)]
      · exfalso; split at hb <;> omega
    · congr 1; omega
  rw [hi]
  by_cases h0 : b = 0
  · subst h0
    rw [Nat.sub_zero, Nat.sub_zero, hx, show p + N = N + p by omega, md_lt hp, ups]
  · have hbN : b < N := by split at hb <;> omega
    have hne : (p + N - b) % N ≠ p := by
      by_cases h : b ≤ p
      · rw [show p + N - b = N + (p - b) by omega, md_lt (by omega)]; omega
      · rw [Nat.mod_eq_of_lt (by omega)]; omega
    rw [upn hne rfl, hr _ (by omega)]
    have := hrow (b - 1) (by split at hb <;> omega)
    rw [show p + N - 1 - (b - 1) = p + N - b by omega] at this
    rw [← this]
    congr 1
    split at hb <;> (rename_i hc; simp only [hc, if_true, if_false]; omega)
