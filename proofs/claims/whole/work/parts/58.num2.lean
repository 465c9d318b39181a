/-! a number of the reference's beside one of the class': the same, within bounds -/
def kE (a : Int64) (x : Int32) (lo hi : Int) : Prop := a.toInt = x.toInt ∧ lo ≤ x.toInt ∧ x.toInt ≤ hi
theorem kE.of {a : Int64} {x : Int32} {lo hi : Int} (e : a = x.toInt64) (h : kIn x lo hi) : kE a x lo hi := ⟨by rw [e, Int32.toInt_toInt64], h.1, h.2⟩
theorem kE.eq {a : Int64} {x : Int32} {lo hi : Int} (h : kE a x lo hi) : a = x.toInt64 := Int64.toInt_inj.mp (by rw [Int32.toInt_toInt64]; exact h.1)
theorem kE.kin {a : Int64} {x : Int32} {lo hi : Int} (h : kE a x lo hi) : kIn x lo hi := h.2
theorem kE.kinL {a : Int64} {x : Int32} {lo hi : Int} (h : kE a x lo hi) : kInL a lo hi := ⟨by rw [h.1]; exact h.2.1, by rw [h.1]; exact h.2.2⟩
theorem kE.wk {a : Int64} {x : Int32} {lo hi c d : Int} (h : kE a x lo hi) (h1 : c ≤ lo) (h2 : hi ≤ d) : kE a x c d := ⟨h.1, Int.le_trans h1 h.2.1, Int.le_trans h.2.2 h2⟩
theorem kE.bd {a : Int64} {x : Int32} {lo hi c d : Int} (h : kE a x lo hi) (h1 : c ≤ x.toInt) (h2 : x.toInt ≤ d) : kE a x c d := ⟨h.1, h1, h2⟩
theorem kE.lit {a : Int64} {x : Int32} {n : Int} (h : a.toInt = n) (k : x.toInt = n) : kE a x n n := ⟨by rw [h, k], by omega, by omega⟩
theorem kE.back {a : Int64} {x : Int32} {lo hi : Int} (h : kE a x lo hi) : a.toInt32 = x := by rw [h.eq]; exact Int32.toInt32_toInt64 x
theorem kE.up {x : Int32} {lo hi : Int} (h : kIn x lo hi) : kE x.toInt64 x lo hi := ⟨Int32.toInt_toInt64 x, h.1, h.2⟩
theorem kE.any (x : Int32) : kE x.toInt64 x (-2147483648) 2147483647 := kE.up (kIn.any x)
theorem kE.add {a b : Int64} {x y : Int32} {p q r s : Int} (h : kE a x p q) (k : kE b y r s) (h1 : -2147483648 ≤ p + r) (h2 : q + s < 2147483648) : kE (a + b) (x + y) (p + r) (q + s) := by
  obtain ⟨e1, l1, u1⟩ := h
  obtain ⟨e2, l2, u2⟩ := k
  unfold kE
  rw [Int32.toInt_add, Int64.toInt_add, kn_bmod (by omega) (by omega), kn_bmodL (by omega) (by omega)]
  omega
theorem kE.sub {a b : Int64} {x y : Int32} {p q r s : Int} (h : kE a x p q) (k : kE b y r s) (h1 : -2147483648 ≤ p - s) (h2 : q - r < 2147483648) : kE (a - b) (x - y) (p - s) (q - r) := by
  obtain ⟨e1, l1, u1⟩ := h
  obtain ⟨e2, l2, u2⟩ := k
  unfold kE
  rw [Int32.toInt_sub, Int64.toInt_sub, kn_bmod (by omega) (by omega), kn_bmodL (by omega) (by omega)]
  omega
theorem kE.neg {a : Int64} {x : Int32} {p q : Int} (h : kE a x p q) (h1 : -2147483648 < p) : kE (-a) (-x) (-q) (-p) := by
  obtain ⟨e1, l1, u1⟩ := h
  have u3 := (kn_rng x).2
  unfold kE
  rw [Int32.toInt_neg, Int64.toInt_neg, kn_bmod (by omega) (by omega), kn_bmodL (by omega) (by omega)]
  omega
theorem kAbsMul {x y A B : Int} (h1 : -A ≤ x) (h2 : x ≤ A) (k1 : -B ≤ y) (k2 : y ≤ B) : -(A * B) ≤ x * y ∧ x * y ≤ A * B := by
  have a1 : x.natAbs ≤ A.natAbs := by omega
  have a2 : y.natAbs ≤ B.natAbs := by omega
  have a3 : (x * y).natAbs ≤ (A * B).natAbs := by
    rw [Int.natAbs_mul, Int.natAbs_mul]
    exact Nat.mul_le_mul a1 a2
  have a4 : 0 ≤ A * B := Int.mul_nonneg (by omega) (by omega)
  omega
theorem kE.mul {a b : Int64} {x y : Int32} {p q r s A B : Int} (h : kE a x p q) (k : kE b y r s) (hp : -A ≤ p) (hq : q ≤ A) (hr : -B ≤ r) (hs : s ≤ B) (h2 : A * B < 2147483648) : kE (a * b) (x * y) (-(A * B)) (A * B) := by
  obtain ⟨e1, l1, u1⟩ := h
  obtain ⟨e2, l2, u2⟩ := k
  have m := kAbsMul (x := x.toInt) (y := y.toInt) (A := A) (B := B) (by omega) (by omega) (by omega) (by omega)
  unfold kE
  rw [Int32.toInt_mul, Int64.toInt_mul, e1, e2, kn_bmod (by omega) (by omega), kn_bmodL (by omega) (by omega)]
  exact ⟨rfl, m.1, m.2⟩
theorem kTdiv {x y A : Int} (h1 : -A ≤ x) (h2 : x ≤ A) : -A ≤ x.tdiv y ∧ x.tdiv y ≤ A := by
  have a : (x.tdiv y).natAbs ≤ x.natAbs := by
    rw [Int.natAbs_tdiv]
    exact Nat.div_le_self _ _
  omega
theorem kE.div {a b : Int64} {x y : Int32} {p q r s A : Int} (h : kE a x p q) (k : kE b y r s) (hp : -A ≤ p) (hq : q ≤ A) (hA : A < 2147483648) : kE (a / b) (x / y) (-A) A := by
  obtain ⟨e1, l1, u1⟩ := h
  obtain ⟨e2, l2, u2⟩ := k
  have m := kTdiv (x := x.toInt) (y := y.toInt) (A := A) (by omega) (by omega)
  unfold kE
  rw [Int32.toInt_div, Int64.toInt_div, e1, e2, kn_bmod (by omega) (by omega), kn_bmodL (by omega) (by omega)]
  exact ⟨rfl, m.1, m.2⟩
theorem kE.lt {a b : Int64} {x y : Int32} {p q r s : Int} (h : kE a x p q) (k : kE b y r s) : (a < b) = (x < y) := by
  rw [Int64.lt_iff_toInt_lt, Int32.lt_iff_toInt_lt, h.1, k.1]
theorem kE.le {a b : Int64} {x y : Int32} {p q r s : Int} (h : kE a x p q) (k : kE b y r s) : (a ≤ b) = (x ≤ y) := by
  rw [Int64.le_iff_toInt_le, Int32.le_iff_toInt_le, h.1, k.1]
theorem kE.eqq {a b : Int64} {x y : Int32} {p q r s : Int} (h : kE a x p q) (k : kE b y r s) : (a = b) = (x = y) := by
  rw [← Int64.toInt_inj, ← Int32.toInt_inj, h.1, k.1]
theorem kE.ite {a b : Int64} {x y : Int32} {lo hi : Int} {c d : Prop} {dc : Decidable c} {dd : Decidable d} (e : c = d) (h1 : d → kE a x lo hi) (h2 : ¬ d → kE b y lo hi) : kE (if c then a else b) (if d then x else y) lo hi := by
  subst e
  by_cases h : c
  · rw [if_pos h, if_pos h]; exact h1 h
  · rw [if_neg h, if_neg h]; exact h2 h
theorem kItes {α : Type} {c d : Prop} {dc : Decidable c} {dd : Decidable d} (e : c = d) {x y : α} : (if c then x else y) = (if d then x else y) := by
  subst e
  by_cases h : c
  · rw [if_pos h, if_pos h]
  · rw [if_neg h, if_neg h]
theorem kE0 : kE 0 0 0 0 := kE.lit (by decide) (by decide)
theorem kE1 : kE 1 1 1 1 := kE.lit (by decide) (by decide)
/-! the relation, put into clauses -/
theorem kRel.e {T : Int} {S : Nat → Nat → Int32} {j : Int64} {w : Nat → Int64} (h : kRel T S j w) (k : Nat) (hk : k < 45) : kE (w k) (rS S k) (rLo k) (rHi T k) := kE.of (h.1 k hk).1 (h.1 k hk).2
theorem rHi_mono {T T2 : Int} (h : T ≤ T2) : ∀ k : Nat, rHi T k ≤ rHi T2 k := by
  intro k
  unfold rHi
  split <;> omega
theorem kRel.wk {T T2 : Int} {S : Nat → Nat → Int32} {j : Int64} {w : Nat → Int64} (h : kRel T S j w) (ht : T ≤ T2) : kRel T2 S j w :=
  ⟨fun k hk => ⟨(h.1 k hk).1, (h.1 k hk).2.wk (Int.le_refl _) (rHi_mono ht k)⟩, h.2⟩
theorem rgR.cg {N : Nat} {g g2 cells cells2 : Nat → Int32} {m m2 : Int64} {row row2 : Nat → Int64} (h : rgR N g cells m row) (hg : g2 = g) (hc : cells2 = cells) (hm : m2 = m) (hr : ∀ i : Nat, i < N → row2 i = row i) : rgR N g2 cells2 m2 row2 := by
  subst hg; subst hc; subst hm
  obtain ⟨p, q, h1, h2, h3, h4, h5, h6⟩ := h
  exact ⟨p, q, h1, h2, h3, h4, h5, fun b hb => by rw [hr _ (by omega)]; exact h6 b hb⟩
/-- what the relation says depends on these alone -/
theorem kRel.cg {T : Int} {S S2 : Nat → Nat → Int32} {j j2 : Int64} {w w2 : Nat → Int64} (h : kRel T S j w) (h1 : ∀ k : Nat, k < 45 → rS S2 k = rS S k ∧ w2 k = w k) (h2 : ∀ a : Nat, 9 ≤ a → a < 26 → S2 a = S a) (hw : ∀ k : Nat, 45 ≤ k → k < 294 → w2 k = w k) (hj : j2 = j) : kRel T S2 j2 w2 := by
  obtain ⟨a1, a2, ⟨r1, r2, r3, r4⟩, ⟨e1, e2, e3⟩, b1, b2, c⟩ := h
  have h41 : S2 4 1 = S 4 1 := (h1 43 (by decide)).1
  refine ⟨fun k hk => ?_, fun k hk => ?_, ⟨?_, ?_, ?_, ?_⟩, ⟨?_, ?_, ?_⟩, ?_, fun i hi => ?_, ?_⟩
  · rw [(h1 k hk).1, (h1 k hk).2]; exact a1 k hk
  · rw [h41] at hk
    have b43 := (a1 43 (by decide)).2.2
    have hk2 : k < 48 := by
      have : (S 4 1).toInt ≤ 12 := b43
      omega
    rw [h2 10 (by decide) (by decide), hw (50 + k) (by omega) (by omega)]; exact a2 k hk
  · exact r1.cg (h2 11 (by decide) (by decide)) (h2 15 (by decide) (by decide)) (hw 45 (by decide) (by decide)) (fun i hi => hw _ (by omega) (by omega))
  · exact r2.cg (h2 12 (by decide) (by decide)) (h2 16 (by decide) (by decide)) (hw 45 (by decide) (by decide)) (fun i hi => hw _ (by omega) (by omega))
  · exact r3.cg (h2 13 (by decide) (by decide)) (h2 17 (by decide) (by decide)) (hw 45 (by decide) (by decide)) (fun i hi => hw _ (by omega) (by omega))
  · exact r4.cg (h2 14 (by decide) (by decide)) (h2 18 (by decide) (by decide)) (hw 45 (by decide) (by decide)) (fun i hi => hw _ (by omega) (by omega))
  · exact e1.cg (h2 19 (by decide) (by decide)) (h2 22 (by decide) (by decide)) (hw 46 (by decide) (by decide)) (fun i hi => hw _ (by omega) (by omega))
  · exact e2.cg (h2 20 (by decide) (by decide)) (h2 23 (by decide) (by decide)) (hw 46 (by decide) (by decide)) (fun i hi => hw _ (by omega) (by omega))
  · exact e3.cg (h2 21 (by decide) (by decide)) (h2 24 (by decide) (by decide)) (hw 46 (by decide) (by decide)) (fun i hi => hw _ (by omega) (by omega))
  · exact b1.cg (h2 9 (by decide) (by decide)) (h2 25 (by decide) (by decide)) (hw 48 (by decide) (by decide)) (fun i hi => hw _ (by omega) (by omega))
  · rw [hw 48 (by decide) (by decide)] at hi
    have hi2 : i < 60 := by
      obtain ⟨p, q, _, hq, _, _, hm, _⟩ := b1
      rw [hm, Int32.toInt_toInt64, nI_toInt (by omega)] at hi
      omega
    rw [hw _ (by omega) (by omega)]; exact b2 i hi
  · rw [hj, hw 47 (by decide) (by decide)]; exact c
theorem rA_inj : ∀ k : Nat, k < 45 → ∀ k2 : Nat, k2 < 45 → rA k = rA k2 → k = k2 := by decide +kernel
theorem rA_le : ∀ k : Nat, k < 45 → (rA k).1 ≤ 6 := by decide +kernel
def sUp (S : Nat → Nat → Int32) (a b : Nat) (x : Int32) : Nat → Nat → Int32 := va_up S a (upd (S a) b x)
theorem sUp_n {S : Nat → Nat → Int32} {a b c d : Nat} {x : Int32} (h : (c, d) ≠ (a, b)) : sUp S a b x c d = S c d := by
  unfold sUp va_up
  by_cases hc : c = a
  · subst hc
    rw [if_pos rfl]
    exact upn (fun z => h (by rw [z])) rfl
  · rw [if_neg hc]
theorem sUp_s {S : Nat → Nat → Int32} {a b : Nat} {x : Int32} : sUp S a b x a b = x := by
  unfold sUp va_up
  rw [if_pos rfl, ups]
theorem sUp_m {S : Nat → Nat → Int32} {a b c : Nat} {x : Int32} (h : c ≠ a) : sUp S a b x c = S c := by
  unfold sUp va_up
  rw [if_neg h]
/-- one word is changed, in both -/
theorem kRel.set {T : Int} {S : Nat → Nat → Int32} {j : Int64} {w : Nat → Int64} (h : kRel T S j w) (k : Nat) (hk : k < 45) (h43 : k ≠ 43) {x : Int32} {v : Int64} {lo hi : Int} (hv : kE v x lo hi) (hl : rLo k ≤ lo) (hh : hi ≤ rHi T k) : kRel T (sUp S (rA k).1 (rA k).2 x) j (vp_updL w k v) := by
  have hle := rA_le k hk
  have h1 : ∀ k2 : Nat, k2 < 45 → k2 ≠ k → rS (sUp S (rA k).1 (rA k).2 x) k2 = rS S k2 := fun k2 hk2 hne => sUp_n (fun z => hne (rA_inj k2 hk2 k hk (by rw [← Prod.eta (rA k2), ← Prod.eta (rA k)]; exact z)))
  have hs : rS (sUp S (rA k).1 (rA k).2 x) k = x := sUp_s
  generalize hS : sUp S (rA k).1 (rA k).2 x = S2 at h1 hs
  have h2 : ∀ a : Nat, 9 ≤ a → a < 26 → S2 a = S a := fun a ha _ => by rw [← hS]; exact sUp_m (by omega)
  have hw : ∀ k2 : Nat, k2 ≠ k → vp_updL w k v k2 = w k2 := fun k2 hne => upnL hne rfl
  obtain ⟨a1, a2, ⟨r1, r2, r3, r4⟩, ⟨e1, e2, e3⟩, b1, b2, c⟩ := h
  have h41 : S2 4 1 = S 4 1 := h1 43 (by decide) (fun z => h43 z.symm)
  refine ⟨fun k2 hk2 => ?_, fun k2 hk2 => ?_, ⟨?_, ?_, ?_, ?_⟩, ⟨?_, ?_, ?_⟩, ?_, fun i hi => ?_, ?_⟩
  · by_cases hne : k2 = k
    · subst hne
      rw [hs, upsL]
      exact ⟨hv.eq, hv.kin.wk hl hh⟩
    · rw [h1 k2 hk2 hne, hw k2 hne]; exact a1 k2 hk2
  · rw [h41] at hk2
    rw [h2 10 (by decide) (by decide), hw _ (by omega)]; exact a2 k2 hk2
  · exact r1.cg (h2 11 (by decide) (by decide)) (h2 15 (by decide) (by decide)) (hw 45 (by omega)) (fun i hi => hw _ (by omega))
  · exact r2.cg (h2 12 (by decide) (by decide)) (h2 16 (by decide) (by decide)) (hw 45 (by omega)) (fun i hi => hw _ (by omega))
  · exact r3.cg (h2 13 (by decide) (by decide)) (h2 17 (by decide) (by decide)) (hw 45 (by omega)) (fun i hi => hw _ (by omega))
  · exact r4.cg (h2 14 (by decide) (by decide)) (h2 18 (by decide) (by decide)) (hw 45 (by omega)) (fun i hi => hw _ (by omega))
  · exact e1.cg (h2 19 (by decide) (by decide)) (h2 22 (by decide) (by decide)) (hw 46 (by omega)) (fun i hi => hw _ (by omega))
  · exact e2.cg (h2 20 (by decide) (by decide)) (h2 23 (by decide) (by decide)) (hw 46 (by omega)) (fun i hi => hw _ (by omega))
  · exact e3.cg (h2 21 (by decide) (by decide)) (h2 24 (by decide) (by decide)) (hw 46 (by omega)) (fun i hi => hw _ (by omega))
  · exact b1.cg (h2 9 (by decide) (by decide)) (h2 25 (by decide) (by decide)) (hw 48 (by omega)) (fun i hi => hw _ (by omega))
  · rw [hw 48 (by omega)] at hi
    rw [hw _ (by omega)]; exact b2 i hi
  · rw [hw 47 (by omega)]; exact c
theorem sUp_va {S : Nat → Nat → Int32} {a b : Nat} {x : Int32} {F : Nat → Int32} : sUp (va_up S a F) a b x = va_up S a (upd F b x) := by
  funext c
  unfold sUp va_up
  by_cases h : c = a
  · rw [if_pos h, if_pos h, if_pos rfl]
  · rw [if_neg h, if_neg h, if_neg h]
theorem va_va {S : Nat → Nat → Int32} {a : Nat} {F G : Nat → Int32} : va_up (va_up S a F) a G = va_up S a G := by
  funext c
  unfold va_up
  by_cases h : c = a
  · rw [if_pos h, if_pos h]
  · rw [if_neg h, if_neg h, if_neg h]
theorem va_self {S : Nat → Nat → Int32} {a : Nat} : va_up S a (S a) = S := by
  funext c
  unfold va_up
  by_cases h : c = a
  · rw [if_pos h, h]
  · rw [if_neg h]
theorem va_s {S : Nat → Nat → Int32} {a : Nat} {F : Nat → Int32} : va_up S a F a = F := by unfold va_up; rw [if_pos rfl]
theorem va_n {S : Nat → Nat → Int32} {a b : Nat} {F : Nat → Int32} (h : b ≠ a) : va_up S a F b = S b := by unfold va_up; rw [if_neg h]
theorem kRel.sel {T : Int} {S : Nat → Nat → Int32} {j : Int64} {w : Nat → Int64} (h : kRel T S j w) (c : Nat) : kRel T (va_up S c (S c)) j w := by rw [va_self]; exact h
theorem kRel.com {T : Int} {S : Nat → Nat → Int32} {j : Int64} {w : Nat → Int64} {a : Nat} {F : Nat → Int32} (h : kRel T (va_up S a F) j w) (c : Nat) (hc : c ≠ a) : kRel T (va_up (va_up S a F) c (S c)) j w := by
  have e : va_up S a F c = S c := va_n hc
  have e2 := va_self (S := va_up S a F) (a := c)
  rw [e] at e2
  rw [e2]
  exact h
/-- a State's component a as it is, words put into it one behind the other -/
theorem kRel.set2 {T : Int} {S : Nat → Nat → Int32} {j : Int64} {w : Nat → Int64} {a : Nat} {F : Nat → Int32} (h : kRel T (va_up S a F) j w) (k : Nat) (hk : k < 45) (h43 : k ≠ 43) (ha : (rA k).1 = a) {x : Int32} {v : Int64} {lo hi : Int} (hv : kE v x lo hi) (hl : rLo k ≤ lo) (hh : hi ≤ rHi T k) : kRel T (va_up S a (upd F (rA k).2 x)) j (vp_updL w k v) := by
  have r := h.set k hk h43 hv hl hh
  rw [ha, sUp_va] at r
  exact r
theorem va_com (a b : Nat) (h : a ≠ b) {S : Nat → Nat → Int32} {F G : Nat → Int32} : va_up (va_up S a F) b G = va_up (va_up S b G) a F := by
  funext c
  unfold va_up
  by_cases h1 : c = a
  · rw [if_neg (fun z => h (h1.symm.trans z)), if_pos h1, if_pos h1]
  · rw [if_neg h1]
    by_cases h2 : c = b
    · rw [if_pos h2, if_neg h1]
    · rw [if_neg h2, if_neg h1]
