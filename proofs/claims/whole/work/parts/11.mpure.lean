/-! the reference's pure functions: loops that shift, frames -/
theorem kLoop_inv {σ τ : Type} {d : τ} {b : σ → σ ⊕ τ} (P : σ → Prop) (R : τ → Prop) (μ : σ → Nat) (hin : ∀ x y, P x → b x = .inl y → P y ∧ μ y < μ x) (hout : ∀ x r, P x → b x = .inr r → R r) : ∀ (n : Nat) (x : σ), μ x < n → P x → R (kLoop d b n x) := by
  intro n
  induction n with
  | zero => intro x h; exact absurd h (Nat.not_lt_zero _)
  | succ n ih =>
    intro x h hP
    cases hb : b x with
    | inl y =>
      rw [kLoop_in hb]
      obtain ⟨h1, h2⟩ := hin x y hP hb
      exact ih y (by omega) h1
    | inr r =>
      rw [kLoop_out hb]
      exact hout x r hP hb
theorem nI_inj {a b : Nat} (ha : a < 2 ^ 31) (hb : b < 2 ^ 31) (h : nI a = nI b) : a = b := (nI_eq ha hb).mp h
/-- a loop that moves a row of longs down by d places -/
theorem kShift (base d N : Nat) (w : Nat → Int64) (b : Int32 × (Nat → Int64) → (Int32 × (Nat → Int64)) ⊕ (Int32 × (Nat → Int64))) (hb : ∀ z, b z = if nI N ≤ z.1 then .inr (z.1, z.2) else .inl (z.1 + 1, vp_updL z.2 (Int32.toNatClampNeg (nI base + z.1)) (z.2 (Int32.toNatClampNeg (nI base + z.1 + nI d))))) (hN : base + N + d < 2 ^ 31) (hd : 0 < d) (D0 : Int32 × (Nat → Int64)) (k : Nat) : (kLoop D0 b (N + 1) (0, w)).2 k = if base ≤ k ∧ k < base + N then w (k + d) else w k := by
  refine kLoop_inv (d := D0) (b := b) (fun z => ∃ i : Nat, i ≤ N ∧ z.1 = nI i ∧ ∀ k, z.2 k = if base ≤ k ∧ k < base + i then w (k + d) else w k) (fun r => r.2 k = if base ≤ k ∧ k < base + N then w (k + d) else w k) (fun z => N - z.1.toNatClampNeg) ?_ ?_ (N + 1) (0, w) (by show N - _ < N + 1; omega) ⟨0, Nat.zero_le _, nI_0.symm, fun k => by rw [if_neg (by omega)]⟩
  · intro x y hP hy
    obtain ⟨i, hi, hx, hk⟩ := hP
    rw [hb] at hy
    by_cases hc : nI N ≤ x.1
    · rw [if_pos hc] at hy; cases hy
    · rw [if_neg hc] at hy
      have hy := (Sum.inl.inj hy).symm
      subst hy
      rw [hx] at hc
      have hlt : i < N := by
        rcases Nat.lt_or_ge i N with q | q
        · exact q
        · exact absurd ((nI_leI (by omega) (by omega)).mpr q) hc
      have e1 : nI base + nI i = nI (base + i) := nI_add base i
      have e2 : nI (base + i) + nI d = nI (base + i + d) := nI_add _ _
      have c1 : (nI (base + i)).toNatClampNeg = base + i := nI_clamp (by omega)
      have c2 : (nI (base + i + d)).toNatClampNeg = base + i + d := nI_clamp (by omega)
      refine ⟨⟨i + 1, hlt, by show x.1 + 1 = _; rw [hx, nI_1], fun k => ?_⟩, ?_⟩
      · show vp_updL x.2 (Int32.toNatClampNeg (nI base + x.1)) (x.2 (Int32.toNatClampNeg (nI base + x.1 + nI d))) k = _
        rw [hx, e1, e2, c1, c2]
        unfold vp_updL
        by_cases hki : k = base + i
        · rw [if_pos hki, if_pos (by omega), hk, if_neg (by omega), hki]
        · rw [if_neg hki, hk]
          by_cases hr : base ≤ k ∧ k < base + i
          · rw [if_pos hr, if_pos (by omega)]
          · rw [if_neg hr, if_neg (by omega)]
      · show N - (x.1 + 1).toNatClampNeg < N - x.1.toNatClampNeg
        rw [hx, nI_1, nI_clamp (by omega), nI_clamp (by omega)]
        omega
  · intro x r hP hr
    obtain ⟨i, hi, hx, hk⟩ := hP
    rw [hb] at hr
    by_cases hc : nI N ≤ x.1
    · rw [if_pos hc] at hr
      have hr := (Sum.inr.inj hr).symm
      subst hr
      rw [hx] at hc
      have hge : N ≤ i := (nI_leI (by omega) (by omega)).mp hc
      have : i = N := by omega
      subst this
      exact hk k
    · rw [if_neg hc] at hr; cases hr
theorem fr_of {u s w : Nat → Int64} {P : Nat → Prop} (e : u = s) (h : ∀ k : Nat, P k → s k = w k) : ∀ k : Nat, P k → u k = w k := by subst e; exact h
theorem en_shift (w : Nat → Int64) (k : Nat) : (kLoop default (b_X11_enter_L17) ((Int32.toInt 69 - Int32.toInt 0).toNat + 1) (0, w)).2 k = if 162 ≤ k ∧ k < 162 + 69 then w (k + 3) else w k := by
  have e : (Int32.toInt 69 - Int32.toInt 0).toNat + 1 = 69 + 1 := by decide
  rw [e]
  refine kShift 162 3 69 w b_X11_enter_L17 (fun z => ?_) (by omega) (by omega) default k
  unfold b_X11_enter_L17
  rw [show (69 : Int32) = nI 69 from rfl, show (162 : Int32) = nI 162 from rfl, show (3 : Int32) = nI 3 from rfl]
theorem en_pre (w : Nat → Int64) (k : Nat) : j_X11_enter_2 w k = if w 46 = 24 then (if k = 46 then w 46 - 1 else if 162 ≤ k ∧ k < 162 + 69 then w (k + 3) else w k) else w k := by
  unfold j_X11_enter_2
  by_cases h : w 46 = 24
  · rw [if_pos h, if_pos h]
    unfold j_X11_enter_1
    unfold vp_updL
    by_cases hk : k = 46
    · rw [if_pos hk, if_pos hk, en_shift, if_neg (by omega)]
    · rw [if_neg hk, if_neg hk, en_shift]
  · rw [if_neg h, if_neg h]
theorem en_pre46 {w : Nat → Int64} (h : kInL (w 46) 0 24) : kInL (j_X11_enter_2 w 46) 0 23 := by
  rw [en_pre]
  by_cases hc : w 46 = 24
  · rw [if_pos hc, if_pos rfl]
    exact (kInL.sub (kInL.eq (n := 24) hc (by decide)) (kInL.lit (x := 1) (n := 1) (by decide)) (by decide) (by decide)).wk (by decide) (by decide)
  · rw [if_neg hc]
    exact (kInL.neHi h hc (by decide)).wk (by decide) (by decide)
theorem en_at {x : Nat → Int64} (h : kInL (x 46) 0 23) {j : Int32} {n : Int} (hj : j.toInt = n) (h0 : 0 ≤ n) (h2 : n ≤ 2) : kIn (162 + (3 * (Int64.toInt32 (x 46))) + j) 162 233 :=
  (kIn.add (kIn.add (kIn.lit (x := 162) (n := 162) (by decide)) (kIn.mul (n := 3) (by decide) (by decide) (kIn.l2i h (by decide) (by decide)) (by decide) (by decide)) (by decide) (by decide)) (kIn.lit hj) (by omega) (by omega)).wk (by omega) (by omega)
theorem en_at0 {x : Nat → Int64} (h : kInL (x 46) 0 23) : kIn (162 + (3 * (Int64.toInt32 (x 46)))) 162 231 :=
  (kIn.add (kIn.lit (x := 162) (n := 162) (by decide)) (kIn.mul (n := 3) (by decide) (by decide) (kIn.l2i h (by decide) (by decide)) (by decide) (by decide)) (by decide) (by decide)).wk (by decide) (by decide)
theorem fr_X11_enter (f_t : Nat → Int32) (w : Nat → Int64) (p0 : Int32) (p1 : Int64) (hf : kInL (w 46) 0 24) : ∀ k : Nat, ((k < 162 ∨ 234 ≤ k) ∧ k ≠ 46 ∧ k ≠ 47) → s_X11_enter f_t w p0 p1 k = w k := by
  intro k hk
  have hx := en_pre46 hf
  unfold s_X11_enter
  have hp : j_X11_enter_2 w k = w k := by
    rw [en_pre]
    by_cases hc : w 46 = 24
    · rw [if_pos hc, if_neg hk.2.1, if_neg (by omega)]
    · rw [if_neg hc]
  generalize j_X11_enter_2 w = x at hx hp
  unfold s_X11_enter_3
  exact upnL hk.2.2 (upnL hk.2.1 (upnL ((en_at hx (j := 2) (n := 2) (by decide) (by decide) (by decide)).ne (by decide) (by omega)) (upnL ((en_at hx (j := 1) (n := 1) (by decide) (by decide) (by decide)).ne (by decide) (by omega)) (upnL ((en_at0 hx).ne (by decide) (by omega)) hp))))
theorem en_46 (f_t : Nat → Int32) (w : Nat → Int64) (p0 : Int32) (p1 : Int64) : s_X11_enter f_t w p0 p1 46 = j_X11_enter_2 w 46 + 1 := by
  unfold s_X11_enter s_X11_enter_3
  exact upnL (by decide) upsL
theorem po_X11_enter (f_t : Nat → Int32) (w : Nat → Int64) (p0 : Int32) (p1 : Int64) (hf : kInL (w 46) 0 24) : kInL (s_X11_enter f_t w p0 p1 46) 0 24 := by
  rw [en_46]
  exact (kInL.add (en_pre46 hf) (kInL.lit (x := 1) (n := 1) (by decide)) (by decide) (by decide)).wk (by decide) (by decide)
theorem kIn.mulR {x y : Int32} {n a b : Int} (hy : y.toInt = n) (hn : 0 ≤ n) (k : kIn x a b) (h1 : -2147483648 ≤ n * a) (h2 : n * b < 2147483648) : kIn (x * y) (n * a) (n * b) := by
  obtain ⟨q1, q2⟩ := k
  have e1 : n * a ≤ n * x.toInt := Int.mul_le_mul_of_nonneg_left q1 hn
  have e2 : n * x.toInt ≤ n * b := Int.mul_le_mul_of_nonneg_left q2 hn
  have e3 : x.toInt * n = n * x.toInt := Int.mul_comm _ _
  unfold kIn
  rw [Int32.toInt_mul, hy, e3, kn_bmod (by omega) (by omega)]
  exact ⟨e1, e2⟩
theorem kIn.eq {x y : Int32} {n : Int} (h : x = y) (hy : y.toInt = n) : kIn x n n := by rw [h]; exact kIn.lit hy
theorem kIn.neHi {x y : Int32} {a b : Int} (h : kIn x a b) (hne : ¬ x = y) (hy : y.toInt = b) : kIn x a (b - 1) := by
  refine ⟨h.1, ?_⟩
  have h2 := h.2
  have h3 : ¬ x.toInt = y.toInt := fun z => hne (Int32.toInt_inj.mp z)
  omega
theorem kIn.neLo {x y : Int32} {a b : Int} (h : kIn x a b) (hne : ¬ x = y) (hy : y.toInt = a) : kIn x (a + 1) b := by
  refine ⟨?_, h.2⟩
  have h2 := h.1
  have h3 : ¬ x.toInt = y.toInt := fun z => hne (Int32.toInt_inj.mp z)
  omega
theorem kIn.rw {F : Nat → Int32} {k : Nat} {t : Int32} {a b c d : Int} (e : F k = t) (h : kIn t a b) (h1 : c ≤ a) (h2 : b ≤ d) : kIn (F k) c d := by rw [e]; exact h.wk h1 h2
