/-! one minute of the class: what the law asks of it -/
abbrev k16 : Type := (Nat → Int32) × Int64 × (Nat → Int32) × (Nat → Int32) × (Nat → Int32) × (Nat → Int32) × (Nat → Int32) × (Nat → Int32) × (Nat → Int32) × (Nat → Int32) × (Nat → Int32) × (Nat → Int32) × (Nat → Int32) × (Nat → Int32) × (Nat → Int32) × (Nat → Int32)
abbrev k20 : Type := (Nat → Int32) × (Nat → Int32) × (Nat → Int32) × Int64 × (Nat → Int32) × (Nat → Int32) × (Nat → Int32) × (Nat → Int32) × (Nat → Int32) × (Nat → Int32) × (Nat → Int32) × (Nat → Int32) × (Nat → Int32) × (Nat → Int32) × (Nat → Int32) × (Nat → Int32) × (Nat → Int32) × (Nat → Int32) × (Nat → Int32) × (Nat → Int32)
def mnR (S : Nat → Nat → Int32) (j : Int64) : k20 := s_X7_letMinutePass (S 0) (S 5) (S 4) (S 10) (S 6) (S 1) (S 2) j (S 19) (S 22) (S 20) (S 23) (S 21) (S 24) (S 3) (S 9) (S 25) (S 11) (S 15) (S 12) (S 16) (S 13) (S 17) (S 14) (S 18)
theorem mnR_eq {S : Nat → Nat → Int32} {j : Int64} {r1 : (Nat → Int32) × (Nat → Int32)} {r2 : Int32 × (Nat → Int32) × Int64 × (Nat → Int32) × (Nat → Int32) × (Nat → Int32) × (Nat → Int32) × (Nat → Int32) × (Nat → Int32)} {mc l1 l2 : Int32} {CH cnt : Nat → Int32} {h9 : (Nat → Int32) × (Nat → Int32)} {r4 : k16} (h1 : s_X7_moveSetPoints (S 0) (S 5) (S 4) (S 10) (S 6) = r1) (h2 : s_X7_allowedOutput (S 0) r1.2 (S 1) (S 2) j (S 19) (S 22) (S 20) (S 23) (S 21) (S 24) = r2) (h3 : s_X7_moistureDemand (S 0) r2.2.1 (S 1) (S 3) (((-r2.1) * (s_X10_at 12 (S 1) 5)) / 10) = mc) (h4 : s_X7_lost (S 0) (S 1) r2.2.1 ((s_X10_at 12 (S 1) 9) - (r2.2.1 0)) = l1) (h5 : s_X7_lost (S 0) (S 1) r2.2.1 ((s_X10_at 12 (S 1) 10) - (r2.2.1 1)) = l2) (h6 : s_X1_change r2.2.1 (r2.1 + l1) (((((-r2.1) * (s_X10_at 12 (S 1) 5)) / 10) + mc) + l2) = CH) (h7 : s_X1_count CH r2.1 mc = cnt) (h8 : s_X3_add 60 (S 9) (S 25) (cnt 0) = h9) (h10 : s_X7_followProgram (S 0) r1.1 cnt (S 1) (S 4) (S 10) r2.2.2.1 r2.2.2.2.1 r2.2.2.2.2.1 r2.2.2.2.2.2.1 r2.2.2.2.2.2.2.1 r2.2.2.2.2.2.2.2.1 r2.2.2.2.2.2.2.2.2 (S 11) (S 15) (S 12) (S 16) (S 13) (S 17) (S 14) (S 18) = r4) : mnR S j = (upd (S 0) 0 (S 0 0 + 1), r4.1, cnt, r4.2.1, r4.2.2.1, r4.2.2.2.1, r4.2.2.2.2.1, r4.2.2.2.2.2.1, r4.2.2.2.2.2.2.1, r4.2.2.2.2.2.2.2.1, h9.1, h9.2, r4.2.2.2.2.2.2.2.2.1, r4.2.2.2.2.2.2.2.2.2.1, r4.2.2.2.2.2.2.2.2.2.2.1, r4.2.2.2.2.2.2.2.2.2.2.2.1, r4.2.2.2.2.2.2.2.2.2.2.2.2.1, r4.2.2.2.2.2.2.2.2.2.2.2.2.2.1, r4.2.2.2.2.2.2.2.2.2.2.2.2.2.2.1, r4.2.2.2.2.2.2.2.2.2.2.2.2.2.2.2) := by
  unfold mnR s_X7_letMinutePass
  rw [h1]
  unfold s_X7_letMinutePass_9
  rw [h2]
  unfold s_X7_letMinutePass_8
  rw [h3]
  unfold s_X7_letMinutePass_7
  rw [h4]
  unfold s_X7_letMinutePass_6
  rw [h5]
  unfold s_X7_letMinutePass_5
  rw [h6]
  unfold s_X7_letMinutePass_4
  rw [h7]
  unfold s_X7_letMinutePass_3
  rw [h8]
  unfold s_X7_letMinutePass_2
  rw [h10]
  unfold s_X7_letMinutePass_1
  rfl
theorem kIx {n : Nat} (h : n < 2 ^ 31) : kIn (nI n) n n := ⟨by rw [nI_toInt h]; exact Int.le_refl _, by rw [nI_toInt h]; exact Int.le_refl _⟩
theorem nI_kin {x : Int32} {n : Nat} (h : kIn x n n) (hn : n < 2 ^ 31) : x = nI n := Int32.toInt_inj.mp (by rw [nI_toInt hn]; have := h.1; have := h.2; omega)
theorem nI_minus {a b : Nat} (h : b ≤ a) (ha : a < 2 ^ 31) : nI a - nI b = nI (a - b) := by
  have k := kIn.sub (kIx ha) (kIx (n := b) (by omega)) (by omega) (by omega)
  refine nI_kin ⟨?_, ?_⟩ (by omega)
  · have := k.1; omega
  · have := k.2; omega
theorem nI_plus {a b : Nat} (h : a + b < 2 ^ 31) : nI a + nI b = nI (a + b) := by
  have k := kIn.add (kIx (n := a) (by omega)) (kIx (n := b) (by omega)) (by omega) (by omega)
  refine nI_kin ⟨?_, ?_⟩ (by omega)
  · have := k.1; omega
  · have := k.2; omega
theorem at_nI {N k : Nat} {cells : Nat → Int32} (h : k < N) (hN : N < 2 ^ 31) : s_X10_at N cells (nI k) = cells k := by
  unfold s_X10_at s_X10_at_1
  rw [if_neg (nI_pos (by omega)), if_neg (nI_ge h hN), nI_clamp (by omega)]
theorem latest_nI {N p q b : Nat} {g cells : Nat → Int32} (hN : N < 2 ^ 30) (hp : p < N) (hq : q ≤ N) (h1 : g 1 = nI p) (h2 : g 2 = nI q) (hb : b < q) : s_X3_latest N g cells (nI b) = cells ((p + N - 1 - b) % N) := by
  unfold s_X3_latest s_X3_latest_1
  rw [h1, h2, if_neg (nI_pos (by omega)), if_pos (nI_lt hb (by omega))]
  have e1 : (1 : Int32) = nI 1 := by decide
  by_cases h : b + 1 ≤ p
  · rw [e1, nI_minus (by omega) (by omega), nI_minus (by omega) (by omega), if_pos (nI_pos' (by omega)), at_nI (by omega) (by omega)]
    rw [show p + N - 1 - b = N + (p - 1 - b) by omega, Nat.add_mod_left, Nat.mod_eq_of_lt (by omega)]
  · have k := kIn.sub (kIn.sub (kIx (n := p) (by omega)) (kIn.lit (x := 1) (n := 1) (by decide)) (by omega) (by omega)) (kIx (n := b) (by omega)) (by omega) (by omega)
    have hn : ¬ 0 ≤ nI p - 1 - nI b := fun z => by
      have a := Int32.le_iff_toInt_le.mp z
      rw [Int32.toInt_zero] at a
      have := k.2
      omega
    rw [if_neg hn]
    have k2 := kIn.add k (kIx (n := N) (by omega)) (by omega) (by omega)
    have e : nI p - 1 - nI b + nI N = nI (p + N - 1 - b) := nI_kin ⟨by have := k2.1; omega, by have := k2.2; omega⟩ (by omega)
    rw [e, at_nI (by omega) (by omega), Nat.mod_eq_of_lt (by omega)]
theorem md_lt {a N : Nat} (h : a < N) : (N + a) % N = a := by rw [Nat.add_mod_left, Nat.mod_eq_of_lt h]
theorem add_nI {N p q : Nat} {g cells : Nat → Int32} {x : Int32} (hN : N < 2 ^ 30) (hp : p < N) (hq : q ≤ N) (h1 : g 1 = nI p) (h2 : g 2 = nI q) : s_X3_add N g cells x = (upd (upd g 1 (nI (if p + 1 = N then 0 else p + 1))) 2 (nI (if q = N then N else q + 1)), upd cells p x) := by
  have e1 : (1 : Int32) = nI 1 := by decide
  unfold s_X3_add s_X3_add_1
  rw [h1, h2, if_neg (nI_pos (by omega)), if_pos (nI_lt hp (by omega)), e1, nI_plus (by omega), nI_plus (by omega), nI_clamp (by omega)]
  have a1 : (if nI N ≤ nI (p + 1) then (0 : Int32) else nI (p + 1)) = nI (if p + 1 = N then 0 else p + 1) := by
    by_cases h : p + 1 = N
    · rw [if_pos h, if_pos (nI_le (by omega) (by omega))]; decide
    · rw [if_neg h, if_neg (nI_ge (by omega) (by omega))]
  rw [a1]
  by_cases h : q = N
  · rw [if_pos h, if_pos (nI_le (by omega) (by omega))]
    have e2 : upd (upd g 1 (nI (if p + 1 = N then 0 else p + 1))) 2 (nI N) = upd g 1 (nI (if p + 1 = N then 0 else p + 1)) := by
      funext i
      by_cases hi : i = 2
      · subst hi
        rw [ups, upn (by decide) rfl, h2, h]
      · rw [upn hi rfl]
    rw [e2]
  · rw [if_neg h, if_neg (nI_ge (by omega) (by omega))]
theorem nIofI {p : Int32} {N : Int} (h0 : 0 ≤ p.toInt) (h : p.toInt ≤ N) : p = nI p.toInt.toNat ∧ (p.toInt.toNat : Int) = p.toInt := by
  have a := (kn_rng p).2
  refine ⟨nI_kin ⟨by omega, by omega⟩ (by omega), by omega⟩
theorem mv_run (f run sg sc cl : Nat → Int32) {k : Nat} (h : k ≠ 4) : (s_X7_moveSetPoints f run sg sc cl).1 k = run k := by
  unfold s_X7_moveSetPoints
  by_cases c : s_X4_goesOn run = 0
  · rw [if_pos c]
  · rw [if_neg c]
    unfold s_X7_moveSetPoints_4 j_X7_moveSetPoints_3
    by_cases d : run 0 = 1
    · rw [if_pos d]
      unfold j_X7_moveSetPoints_2 j_X7_moveSetPoints_1
      exact upn h rfl
    · rw [if_neg d]
theorem mv_cl (f run sg sc cl : Nat → Int32) {k : Nat} (h2 : k ≠ 2) (h3 : k ≠ 3) : (s_X7_moveSetPoints f run sg sc cl).2 k = cl k := by
  unfold s_X7_moveSetPoints
  by_cases c : s_X4_goesOn run = 0
  · rw [if_pos c]
  · rw [if_neg c]
    unfold s_X7_moveSetPoints_4
    exact upn h3 (upn h2 rfl)
theorem mv_no (f run sg sc cl : Nat → Int32) (c : s_X4_goesOn run = 0) : (s_X7_moveSetPoints f run sg sc cl).2 = cl := by
  unfold s_X7_moveSetPoints
  rw [if_pos c]
theorem ao_off (f cl st ch : Nat → Int32) (j : Int64) (a1 a2 a3 a4 a5 a6 : Nat → Int32) (h4 : ¬ cl 4 = 0) : (s_X7_allowedOutput f cl st ch j a1 a2 a3 a4 a5 a6).1 = 0 ∧ (s_X7_allowedOutput f cl st ch j a1 a2 a3 a4 a5 a6).2.1 = upd cl 5 0 := by
  unfold s_X7_allowedOutput
  rw [if_neg h4]
  exact ⟨rfl, rfl⟩
/-- the output's word: what is wanted u, and whether it is blocked x -/
def aoX (u r h c : Int32) : Int32 := (if (if u ≤ 0 then (0 : Int32) else (if r ≤ c then 0 else 1)) = 0 then (if (if 0 ≤ u then (0 : Int32) else (if r ≤ h then 0 else 1)) = 0 then 0 else 1) else 1)
theorem ao_on (f cl st ch : Nat → Int32) (j : Int64) (a1 a2 a3 a4 a5 a6 : Nat → Int32) (h4 : cl 4 = 0) : ∃ u : Int32, (s_X7_allowedOutput f cl st ch j a1 a2 a3 a4 a5 a6).1 = (if aoX u (s_X10_at 12 st 8) (cl 7) (cl 8) = 0 then u else 0) ∧ (s_X7_allowedOutput f cl st ch j a1 a2 a3 a4 a5 a6).2.1 = upd (if aoX u (s_X10_at 12 st 8) (cl 7) (cl 8) = 0 then cl else upd cl 6 (cl 6 + 1)) 5 (aoX u (s_X10_at 12 st 8) (cl 7) (cl 8)) := by
  refine ⟨s_X0_demand ch ((cl 2) - (cl 0)) (s_X10_at 12 st 0) (s_X10_at 12 st 1), ?_⟩
  unfold s_X7_allowedOutput
  rw [if_pos h4]
  generalize s_X0_demand ch ((cl 2) - (cl 0)) (s_X10_at 12 st 0) (s_X10_at 12 st 1) = u
  unfold s_X7_allowedOutput_10 s_X7_allowedOutput_9 s_X7_allowedOutput_8 s_X7_allowedOutput_7 s_X7_allowedOutput_6 s_X7_allowedOutput_5 s_X7_allowedOutput_4 aoX
  exact ⟨rfl, rfl⟩
theorem aoX_b (u r h c : Int32) : kb (aoX u r h c) := by
  have key : ∀ x y : Int32, kb (if x = 0 then (if y = 0 then (0 : Int32) else 1) else 1) := by
    intro x y
    by_cases a : x = 0
    · rw [if_pos a]
      by_cases b : y = 0
      · rw [if_pos b]
        exact kb0
      · rw [if_neg b]
        exact kb1
    · rw [if_neg a]
      exact kb1
  exact key _ _
theorem aoX_p {u r h c : Int32} (hx : aoX u r h c = 0) : (¬ u ≤ 0 → r ≤ c) ∧ (¬ 0 ≤ u → r ≤ h) := by
  have key : ∀ x y : Int32, (if x = 0 then (if y = 0 then (0 : Int32) else 1) else 1) = 0 → x = 0 ∧ y = 0 := by
    intro x y e
    by_cases a : x = 0
    · rw [if_pos a] at e
      by_cases b : y = 0
      · exact ⟨a, b⟩
      · rw [if_neg b] at e
        exact absurd e (by decide)
    · rw [if_neg a] at e
      exact absurd e (by decide)
  unfold aoX at hx
  obtain ⟨e1, e2⟩ := key _ _ hx
  constructor
  · intro hu
    rw [if_neg hu] at e1
    by_cases d : r ≤ c
    · exact d
    · rw [if_neg d] at e1
      exact absurd e1 (by decide)
  · intro hu
    rw [if_neg hu] at e2
    by_cases d : r ≤ h
    · exact d
    · rw [if_neg d] at e2
      exact absurd e2 (by decide)
theorem ao_all (f cl st ch : Nat → Int32) (j : Int64) (a1 a2 a3 a4 a5 a6 : Nat → Int32) (k4 : kb (cl 4)) : (∀ k, k ≠ 5 → k ≠ 6 → (s_X7_allowedOutput f cl st ch j a1 a2 a3 a4 a5 a6).2.1 k = cl k) ∧ kb ((s_X7_allowedOutput f cl st ch j a1 a2 a3 a4 a5 a6).2.1 5) ∧ (¬ cl 4 = 0 → (s_X7_allowedOutput f cl st ch j a1 a2 a3 a4 a5 a6).1 = 0) ∧ (¬ (s_X7_allowedOutput f cl st ch j a1 a2 a3 a4 a5 a6).1 ≤ 0 → cl 4 = 0 ∧ s_X10_at 12 st 8 ≤ cl 8) ∧ (¬ 0 ≤ (s_X7_allowedOutput f cl st ch j a1 a2 a3 a4 a5 a6).1 → cl 4 = 0 ∧ s_X10_at 12 st 8 ≤ cl 7) := by
  by_cases h4 : cl 4 = 0
  · obtain ⟨u, e1, e2⟩ := ao_on f cl st ch j a1 a2 a3 a4 a5 a6 h4
    rw [e1, e2]
    generalize hx : aoX u (s_X10_at 12 st 8) (cl 7) (cl 8) = x
    refine ⟨fun k g5 g6 => ?_, ?_, fun q => absurd h4 q, fun q => ⟨h4, ?_⟩, fun q => ⟨h4, ?_⟩⟩
    · by_cases c : x = 0
      · rw [if_pos c]
        exact upn g5 rfl
      · rw [if_neg c]
        exact upn g5 (upn g6 rfl)
    · rw [ups, ← hx]
      exact aoX_b _ _ _ _
    · by_cases c : x = 0
      · rw [if_pos c] at q
        exact (aoX_p (hx.trans c)).1 q
      · rw [if_neg c] at q
        exact absurd (by decide) q
    · by_cases c : x = 0
      · rw [if_pos c] at q
        exact (aoX_p (hx.trans c)).2 q
      · rw [if_neg c] at q
        exact absurd (by decide) q
  · obtain ⟨e1, e2⟩ := ao_off f cl st ch j a1 a2 a3 a4 a5 a6 h4
    rw [e1, e2]
    refine ⟨fun k g5 g6 => upn g5 rfl, by rw [ups]; exact kb0, fun _ => rfl, fun q => absurd (by decide) q, fun q => absurd (by decide) q⟩
theorem mo_off (f cl st ch : Nat → Int32) (p : Int32) (h4 : ¬ cl 4 = 0) : s_X7_moistureDemand f cl st ch p = 0 := by
  unfold s_X7_moistureDemand
  rw [if_neg h4]
theorem lim_in {x a b : Int32} (h : a.toInt ≤ b.toInt) : a.toInt ≤ (s_X10_limit x a b).toInt ∧ (s_X10_limit x a b).toInt ≤ b.toInt := by
  unfold s_X10_limit
  have key : ∀ y : Int32, y.toInt ≤ b.toInt → a.toInt ≤ (if a < y then y else a).toInt ∧ (if a < y then y else a).toInt ≤ b.toInt := by
    intro y hy
    by_cases c : a < y
    · rw [if_pos c]
      have := Int32.lt_iff_toInt_lt.mp c
      exact ⟨by omega, hy⟩
    · rw [if_neg c]
      exact ⟨Int.le_refl _, h⟩
  refine key _ ?_
  by_cases c : x < b
  · rw [if_pos c]
    have := Int32.lt_iff_toInt_lt.mp c
    omega
  · rw [if_neg c]
    exact Int.le_refl _
theorem ch_0 (f : Nat → Int32) (a b : Int32) : kIn (s_X1_change f a b 0) (-700) 2000 := by
  have e : s_X1_change f a b 0 = s_X10_limit (f 0 + a) (-700) 2000 := by
    unfold s_X1_change
    exact upn (by decide) ups
  rw [e]
  exact lim_in (by decide)
theorem ch_1 (f : Nat → Int32) (a b : Int32) : kIn (s_X1_change f a b 1) 0 1000 := by
  have e : s_X1_change f a b 1 = s_X10_limit (f 1 + b) 0 1000 := by
    unfold s_X1_change
    exact ups
  rw [e]
  exact lim_in (by decide)
theorem ch_n (f : Nat → Int32) (a b : Int32) {k : Nat} (h0 : k ≠ 0) (h1 : k ≠ 1) : s_X1_change f a b k = f k := by
  unfold s_X1_change
  exact upn h1 (upn h0 rfl)
theorem ct_7 (f : Nat → Int32) (o m : Int32) : s_X1_count f o m 7 = (if o ≤ 0 then (if 1000 < f 7 + 1 then 1000 else f 7 + 1) else 0) := by
  unfold s_X1_count s_X1_count_7 s_X1_count_6 s_X1_count_5 s_X1_count_4 s_X1_count_3 s_X1_count_2 s_X1_count_1
  exact upn (by decide) (upn (by decide) (upn (by decide) (upn (by decide) (upn (by decide) (upn (by decide) (ups))))))
theorem ct_8 (f : Nat → Int32) (o m : Int32) : s_X1_count f o m 8 = (if 0 ≤ o then (if 1000 < f 8 + 1 then 1000 else f 8 + 1) else 0) := by
  unfold s_X1_count s_X1_count_7 s_X1_count_6 s_X1_count_5 s_X1_count_4 s_X1_count_3 s_X1_count_2 s_X1_count_1
  exact upn (by decide) (upn (by decide) (upn (by decide) (upn (by decide) (upn (by decide) (ups)))))
theorem ct_9 (f : Nat → Int32) (o m : Int32) : s_X1_count f o m 9 = f 9 + (if o ≤ 0 then 0 else 1) := by
  unfold s_X1_count s_X1_count_7 s_X1_count_6 s_X1_count_5 s_X1_count_4 s_X1_count_3 s_X1_count_2 s_X1_count_1
  exact upn (by decide) (upn (by decide) (upn (by decide) (upn (by decide) (ups))))
theorem ct_10 (f : Nat → Int32) (o m : Int32) : s_X1_count f o m 10 = f 10 + (if 0 ≤ o then 0 else 1) := by
  unfold s_X1_count s_X1_count_7 s_X1_count_6 s_X1_count_5 s_X1_count_4 s_X1_count_3 s_X1_count_2 s_X1_count_1
  exact upn (by decide) (upn (by decide) (upn (by decide) (ups)))
theorem ct_13 (f : Nat → Int32) (o m : Int32) : s_X1_count f o m 13 = f 13 + ((if 0 ≤ o then o else 0 - o) + (if 0 ≤ m then m else 0 - m)) := by
  unfold s_X1_count s_X1_count_7 s_X1_count_6 s_X1_count_5 s_X1_count_4 s_X1_count_3 s_X1_count_2 s_X1_count_1
  exact ups
theorem ct_lo (f : Nat → Int32) (o m : Int32) {k : Nat} (h : k < 7) : s_X1_count f o m k = f k := by
  unfold s_X1_count s_X1_count_7 s_X1_count_6 s_X1_count_5 s_X1_count_4 s_X1_count_3 s_X1_count_2 s_X1_count_1
  exact upn (by omega) (upn (by omega) (upn (by omega) (upn (by omega) (upn (by omega) (upn (by omega) (upn (by omega) (rfl)))))))
def pRun (r : Nat → Int32) : Prop := kb (r 1) ∧ kIn (r 2) 0 11
theorem pRun.put {r : Nat → Int32} (h : pRun r) {k : Nat} {x : Int32} (h1 : k ≠ 1) (h2 : k ≠ 2) : pRun (upd r k x) := ⟨kb.eq (upn (Ne.symm h1) rfl) h.1, kIn.eq (upn (Ne.symm h2) rfl) h.2⟩
theorem pRun.stop {r : Nat → Int32} (h : pRun r) (x : Int32) : pRun (s_X4_end r x) := by
  unfold s_X4_end
  exact ⟨kb.eq ups kb0, kIn.eq (upn (by decide) (upn (by decide) rfl)) h.2⟩
theorem pRun.beg {r : Nat → Int32} (h : pRun r) (f cl sg sc : Nat → Int32) (j : Int64) (a1 a2 a3 a4 a5 a6 : Nat → Int32) {p0 : Int32} (p1 p2 : Int32) (hp : kIn p0 0 11) : pRun (s_X7_beginSegment f r cl sg sc j a1 a2 a3 a4 a5 a6 p0 p1 p2).1 := by
  unfold s_X7_beginSegment s_X7_beginSegment_2 s_X7_beginSegment_1
  refine pRun.put (pRun.put (pRun.put (pRun.put (pRun.put (pRun.put (pRun.put (pRun.put ?_ (by decide) (by decide)) (by decide) (by decide)) (by decide) (by decide)) (by decide) (by decide)) (by decide) (by decide)) (by decide) (by decide)) (by decide) (by decide)) (by decide) (by decide)
  exact ⟨kb.eq (upn (by decide) rfl) h.1, kIn.eq ups hp⟩
theorem pRun.fin {r : Nat → Int32} (h : pRun r) (f cl sg sc : Nat → Int32) (j : Int64) (a1 a2 a3 a4 a5 a6 : Nat → Int32) (b1 b2 b3 b4 b5 b6 b7 b8 : Nat → Int32) (hs : kIn (sg 1) 0 12) : pRun (s_X7_finishSegment f r j a1 a2 a3 a4 a5 a6 b1 b2 b3 b4 b5 b6 b7 b8 sg cl sc).1 := by
  unfold s_X7_finishSegment s_X7_finishSegment_6 s_X7_finishSegment_5
  by_cases c : sg 1 ≤ r 2 + 1
  · rw [if_pos c]
    by_cases d : f 1 ≤ r 3
    · rw [if_pos d]
      unfold s_X7_finishSegment_2 s_X7_finishSegment_1
      exact h.stop 3
    · rw [if_neg d]
      rw [show ∀ a b, (s_X7_finishSegment_3 a b).1 = b.1 from fun _ _ => rfl]
      exact h.beg _ _ _ _ _ _ _ _ _ _ _ _ _ ⟨by decide, by decide⟩
  · rw [if_neg c]
    rw [show ∀ a b, (s_X7_finishSegment_4 a b).1 = b.1 from fun _ _ => rfl]
    refine h.beg _ _ _ _ _ _ _ _ _ _ _ _ _ ?_
    have k := kIn.add h.2 (kIn.lit (x := 1) (n := 1) (by decide)) (by decide) (by decide)
    have c2 : (r 2 + 1).toInt < (sg 1).toInt := by
      have : ¬ (sg 1).toInt ≤ (r 2 + 1).toInt := fun z => c (Int32.le_iff_toInt_le.mpr z)
      omega
    exact ⟨by have := k.1; omega, by have := hs.2; omega⟩
theorem pRun.follow {r : Nat → Int32} (h : pRun r) (f cl st sg sc : Nat → Int32) (j : Int64) (a1 a2 a3 a4 a5 a6 : Nat → Int32) (b1 b2 b3 b4 b5 b6 b7 b8 : Nat → Int32) (hs : kIn (sg 1) 0 12) : pRun (s_X7_followProgram f r cl st sg sc j a1 a2 a3 a4 a5 a6 b1 b2 b3 b4 b5 b6 b7 b8).1 := by
  unfold s_X7_followProgram
  by_cases c : s_X4_goesOn r = 0
  · rw [if_pos c]
    exact h
  · rw [if_neg c]
    have hm : pRun (j_X7_followProgram_3 r f sg sc cl st).2 := by
      unfold j_X7_followProgram_3
      by_cases d : r 0 = 1
      · rw [if_pos d]
        unfold j_X7_followProgram_1 s_X7_followRamp
        by_cases e : s_X6_property sg sc (r 2) 2 ≤ r 4
        · rw [if_pos e]
          by_cases e2 : s_X6_property sg sc (r 2) 3 = 0
          · rw [if_pos e2]
            exact h.put (by decide) (by decide)
          · rw [if_neg e2]
            exact h.put (by decide) (by decide)
        · rw [if_neg e]
          exact h
      · rw [if_neg d]
        unfold j_X7_followProgram_2 s_X7_followSoak s_X7_followSoak_3
        have hq : pRun (if j_X7_followSoak_1 st cl = 0 then (upd r 6 ((r 6) + 1)) else (upd r 5 ((r 5) + 1))) := by
          split
          · exact h.put (by decide) (by decide)
          · exact h.put (by decide) (by decide)
        generalize (if j_X7_followSoak_1 st cl = 0 then (upd r 6 ((r 6) + 1)) else (upd r 5 ((r 5) + 1))) = r9 at hq
        unfold s_X7_followSoak_2
        split
        · exact hq
        · exact hq
    generalize j_X7_followProgram_3 r f sg sc cl st = m at hm
    unfold s_X7_followProgram_7
    by_cases d : m.1 = 0
    · rw [if_pos d]
      by_cases e : m.2 6 ≤ s_X10_at 12 st 11
      · rw [if_pos e]
        exact hm
      · rw [if_neg e]
        unfold s_X7_followProgram_5 s_X7_followProgram_4
        exact hm.stop 4
    · rw [if_neg d]
      rw [show ∀ b, (s_X7_followProgram_6 b).1 = b.1 from fun _ => rfl]
      exact hm.fin f cl sg sc _ _ _ _ _ _ _ _ _ _ _ _ _ _ _ hs
theorem rg_add {f c : Nat → Int32} (h1 : kIn (f 1) 0 59) (h2 : kIn (f 2) 0 60) (x : Int32) : kIn ((s_X3_add 60 f c x).1 1) 0 59 ∧ kIn ((s_X3_add 60 f c x).1 2) 0 60 ∧ s_X3_latest 60 (s_X3_add 60 f c x).1 (s_X3_add 60 f c x).2 0 = x := by
  obtain ⟨e1, g1⟩ := nIofI h1.1 h1.2
  obtain ⟨e2, g2⟩ := nIofI h2.1 h2.2
  have l1 := h1.2
  have l2 := h2.2
  generalize (f 1).toInt.toNat = a at e1 g1
  generalize (f 2).toInt.toNat = n at e2 g2
  have ha : a < 60 := by omega
  have hn : n ≤ 60 := by omega
  rw [add_nI (N := 60) (by decide) ha hn e1 e2]
  have b1 : (if a + 1 = 60 then 0 else a + 1) < 60 := by split <;> omega
  have b2 : (if n = 60 then 60 else n + 1) ≤ 60 := by split <;> omega
  have b3 : 0 < (if n = 60 then 60 else n + 1) := by split <;> omega
  have b4 : ((if a + 1 = 60 then 0 else a + 1) + 60 - 1 - 0) % 60 = a := by split <;> omega
  have y1 : ∀ v w : Int32, upd (upd f 1 v) 2 w 1 = v := fun v w => upn (by decide) ups
  have y2 : ∀ v w : Int32, upd (upd f 1 v) 2 w 2 = w := fun v w => ups
  generalize (if a + 1 = 60 then 0 else a + 1) = a2 at b1 b4 ⊢
  generalize (if n = 60 then 60 else n + 1) = n2 at b2 b3 ⊢
  refine ⟨?_, ?_, ?_⟩
  · show kIn (upd (upd f 1 (nI a2)) 2 (nI n2) 1) 0 59
    rw [y1]
    unfold kIn
    rw [nI_toInt (by omega)]
    omega
  · show kIn (upd (upd f 1 (nI a2)) 2 (nI n2) 2) 0 60
    rw [y2]
    unfold kIn
    rw [nI_toInt (by omega)]
    omega
  · have e0 : (0 : Int32) = nI 0 := by decide
    show s_X3_latest 60 (upd (upd f 1 (nI a2)) 2 (nI n2)) (upd c a x) 0 = x
    rw [e0, latest_nI (N := 60) (b := 0) (by decide) b1 b2 (y1 _ _) (y2 _ _) b3, b4, ups]
/-- one minute: what is behind it -/
theorem mn_all {T : Int} {S : Nat → Nat → Int32} (j : Int64) (h : pOK T S) (hT : T < 30000) : pOr (T + 1) (mnR S j).1 (S 4) (mnR S j).2.1 (mnR S j).2.2.1 (mnR S j).2.2.2.2.2.2.2.2.2.2.1 ∧
    (∃ o : Int32, (mnR S j).2.2.1 9 = S 6 9 + (if o ≤ 0 then 0 else 1) ∧ (mnR S j).2.2.1 10 = S 6 10 + (if 0 ≤ o then 0 else 1) ∧ (¬ o ≤ 0 → S 6 4 = 0 ∧ s_X10_at 12 (S 1) 8 ≤ S 6 8 ∧ (mnR S j).2.2.1 7 = 0) ∧ (¬ 0 ≤ o → S 6 4 = 0 ∧ s_X10_at 12 (S 1) 8 ≤ S 6 7 ∧ (mnR S j).2.2.1 8 = 0) ∧ (¬ S 6 4 = 0 → (mnR S j).2.2.1 13 = S 6 13)) ∧
    (s_X4_goesOn (S 5) = 0 → (mnR S j).2.2.1 2 = S 6 2 ∧ (mnR S j).2.2.1 3 = S 6 3) ∧ kIn ((mnR S j).2.2.1 0) (-700) 2000 ∧ kIn ((mnR S j).2.2.1 1) 0 1000 ∧ s_X3_latest 60 (mnR S j).2.2.2.2.2.2.2.2.2.2.1 (mnR S j).2.2.2.2.2.2.2.2.2.2.2.1 0 = (mnR S j).2.2.1 0 := by
  obtain ⟨p0, p4, p5, p6, p9⟩ := h
  have q := @mnR_eq S j _ _ _ _ _ _ _ _ _ rfl rfl rfl rfl rfl rfl rfl rfl rfl
  have r1 : pRun (s_X7_moveSetPoints (S 0) (S 5) (S 4) (S 10) (S 6)).1 := ⟨by rw [mv_run _ _ _ _ _ (by decide)]; exact p5.1, by rw [mv_run _ _ _ _ _ (by decide)]; exact p5.2⟩
  have m4 : (s_X7_moveSetPoints (S 0) (S 5) (S 4) (S 10) (S 6)).2 4 = S 6 4 := mv_cl _ _ _ _ _ (by decide) (by decide)
  have m7 : (s_X7_moveSetPoints (S 0) (S 5) (S 4) (S 10) (S 6)).2 7 = S 6 7 := mv_cl _ _ _ _ _ (by decide) (by decide)
  have m8 : (s_X7_moveSetPoints (S 0) (S 5) (S 4) (S 10) (S 6)).2 8 = S 6 8 := mv_cl _ _ _ _ _ (by decide) (by decide)
  have m9 : (s_X7_moveSetPoints (S 0) (S 5) (S 4) (S 10) (S 6)).2 9 = S 6 9 := mv_cl _ _ _ _ _ (by decide) (by decide)
  have m10 : (s_X7_moveSetPoints (S 0) (S 5) (S 4) (S 10) (S 6)).2 10 = S 6 10 := mv_cl _ _ _ _ _ (by decide) (by decide)
  have m13 : (s_X7_moveSetPoints (S 0) (S 5) (S 4) (S 10) (S 6)).2 13 = S 6 13 := mv_cl _ _ _ _ _ (by decide) (by decide)
  have m2 : s_X4_goesOn (S 5) = 0 → (s_X7_moveSetPoints (S 0) (S 5) (S 4) (S 10) (S 6)).2 2 = S 6 2 ∧ (s_X7_moveSetPoints (S 0) (S 5) (S 4) (S 10) (S 6)).2 3 = S 6 3 := fun c => by rw [mv_no _ _ _ _ _ c]; exact ⟨rfl, rfl⟩
  generalize s_X7_moveSetPoints (S 0) (S 5) (S 4) (S 10) (S 6) = u1 at q r1 m4 m7 m8 m9 m10 m13 m2
  obtain ⟨o1, o2, o3, o4, o5⟩ := ao_all (S 0) u1.2 (S 1) (S 2) j (S 19) (S 22) (S 20) (S 23) (S 21) (S 24) (by rw [m4]; exact p6.1)
  generalize s_X7_allowedOutput (S 0) u1.2 (S 1) (S 2) j (S 19) (S 22) (S 20) (S 23) (S 21) (S 24) = u2 at q o1 o2 o3 o4 o5
  have d4 : u2.2.1 4 = S 6 4 := (o1 4 (by decide) (by decide)).trans m4
  have d7 : u2.2.1 7 = S 6 7 := (o1 7 (by decide) (by decide)).trans m7
  have d8 : u2.2.1 8 = S 6 8 := (o1 8 (by decide) (by decide)).trans m8
  have d9 : u2.2.1 9 = S 6 9 := (o1 9 (by decide) (by decide)).trans m9
  have d10 : u2.2.1 10 = S 6 10 := (o1 10 (by decide) (by decide)).trans m10
  have d13 : u2.2.1 13 = S 6 13 := (o1 13 (by decide) (by decide)).trans m13
  have d2 : s_X4_goesOn (S 5) = 0 → u2.2.1 2 = S 6 2 ∧ u2.2.1 3 = S 6 3 := fun c => ⟨(o1 2 (by decide) (by decide)).trans (m2 c).1, (o1 3 (by decide) (by decide)).trans (m2 c).2⟩
  rw [m4] at o3 o4 o5
  rw [m7] at o5
  rw [m8] at o4
  have mz : ¬ S 6 4 = 0 → s_X7_moistureDemand (S 0) u2.2.1 (S 1) (S 3) (((-u2.1) * (s_X10_at 12 (S 1) 5)) / 10) = 0 := fun c => mo_off _ _ _ _ _ (by rw [d4]; exact c)
  generalize s_X7_moistureDemand (S 0) u2.2.1 (S 1) (S 3) (((-u2.1) * (s_X10_at 12 (S 1) 5)) / 10) = mo at q mz
  generalize s_X7_lost (S 0) (S 1) u2.2.1 ((s_X10_at 12 (S 1) 9) - (u2.2.1 0)) = l1 at q
  generalize s_X7_lost (S 0) (S 1) u2.2.1 ((s_X10_at 12 (S 1) 10) - (u2.2.1 1)) = l2 at q
  have c0 := ch_0 u2.2.1 (u2.1 + l1) (((((-u2.1) * (s_X10_at 12 (S 1) 5)) / 10) + mo) + l2)
  have c1 := ch_1 u2.2.1 (u2.1 + l1) (((((-u2.1) * (s_X10_at 12 (S 1) 5)) / 10) + mo) + l2)
  have cn : ∀ k, k ≠ 0 → k ≠ 1 → s_X1_change u2.2.1 (u2.1 + l1) (((((-u2.1) * (s_X10_at 12 (S 1) 5)) / 10) + mo) + l2) k = u2.2.1 k := fun k a b => ch_n _ _ _ a b
  generalize s_X1_change u2.2.1 (u2.1 + l1) (((((-u2.1) * (s_X10_at 12 (S 1) 5)) / 10) + mo) + l2) = CH at q c0 c1 cn
  have t0 : s_X1_count CH u2.1 mo 0 = CH 0 := ct_lo _ _ _ (by decide)
  have t1 : s_X1_count CH u2.1 mo 1 = CH 1 := ct_lo _ _ _ (by decide)
  have t2 : s_X1_count CH u2.1 mo 2 = CH 2 := ct_lo _ _ _ (by decide)
  have t3 : s_X1_count CH u2.1 mo 3 = CH 3 := ct_lo _ _ _ (by decide)
  have t4 : s_X1_count CH u2.1 mo 4 = CH 4 := ct_lo _ _ _ (by decide)
  have t5 : s_X1_count CH u2.1 mo 5 = CH 5 := ct_lo _ _ _ (by decide)
  have t7 := ct_7 CH u2.1 mo
  have t8 := ct_8 CH u2.1 mo
  have t9 := ct_9 CH u2.1 mo
  have t10 := ct_10 CH u2.1 mo
  have t13 := ct_13 CH u2.1 mo
  generalize s_X1_count CH u2.1 mo = CT at q t0 t1 t2 t3 t4 t5 t7 t8 t9 t10 t13
  have g := rg_add (c := S 25) p9.1 p9.2 (CT 0)
  generalize s_X3_add 60 (S 9) (S 25) (CT 0) = h9 at q g
  have rr := r1.follow (S 0) CT (S 1) (S 4) (S 10) u2.2.2.1 u2.2.2.2.1 u2.2.2.2.2.1 u2.2.2.2.2.2.1 u2.2.2.2.2.2.2.1 u2.2.2.2.2.2.2.2.1 u2.2.2.2.2.2.2.2.2 (S 11) (S 15) (S 12) (S 16) (S 13) (S 17) (S 14) (S 18) p4
  generalize s_X7_followProgram (S 0) u1.1 CT (S 1) (S 4) (S 10) u2.2.2.1 u2.2.2.2.1 u2.2.2.2.2.1 u2.2.2.2.2.2.1 u2.2.2.2.2.2.2.1 u2.2.2.2.2.2.2.2.1 u2.2.2.2.2.2.2.2.2 (S 11) (S 15) (S 12) (S 16) (S 13) (S 17) (S 14) (S 18) = r4 at q rr
  rw [q]
  refine ⟨⟨?_, p4, rr, ⟨?_, ?_⟩, g.1, g.2.1⟩, ⟨u2.1, ?_, ?_, fun z => ?_, fun z => ?_, fun z => ?_⟩, fun z => ⟨?_, ?_⟩, ?_, ?_, g.2.2⟩
  · show kIn (upd (S 0) 0 (S 0 0 + 1) 0) 0 (T + 1)
    rw [ups]
    exact (kIn.add p0 (kIn.lit (x := 1) (n := 1) (by decide)) (by decide) (by omega)).wk (by decide) (Int.le_refl _)
  · show kb (CT 4)
    rw [t4, cn 4 (by decide) (by decide), d4]
    exact p6.1
  · show kb (CT 5)
    rw [t5, cn 5 (by decide) (by decide)]
    exact o2
  · show CT 9 = _
    rw [t9, cn 9 (by decide) (by decide), d9]
  · show CT 10 = _
    rw [t10, cn 10 (by decide) (by decide), d10]
  · refine ⟨(o4 z).1, (o4 z).2, ?_⟩
    show CT 7 = 0
    rw [t7, if_neg z]
  · refine ⟨(o5 z).1, (o5 z).2, ?_⟩
    show CT 8 = 0
    rw [t8, if_neg z]
  · show CT 13 = _
    rw [t13, cn 13 (by decide) (by decide), d13, o3 z, mz z]
    exact Int32.add_zero _
  · show CT 2 = _
    rw [t2, cn 2 (by decide) (by decide)]
    exact (d2 z).1
  · show CT 3 = _
    rw [t3, cn 3 (by decide) (by decide)]
    exact (d2 z).2
  · show kIn (CT 0) _ _
    rw [t0]
    exact c0
  · show kIn (CT 1) _ _
    rw [t1]
    exact c1
