/-! the reader: the class' against the reference's -/
def eR (text : Nat → Int32) (k : Nat) (g t : Nat → Int32) : Int32 × (Nat → Int32) × (Nat → Int32) := kLoop default (b_X11_error_L19 text) (91 - k) (nI k, g, t)
theorem eR_end {text g t : Nat → Int32} {n : Nat} (hn : n ≤ 90) (h6 : g 6 = nI n) : eR text n g t = ((if nI n = 0 then nI n else if g 9 ≤ 0 then g 12 else nI n), g, t) := by
  unfold eR
  rw [show 91 - n = (90 - n) + 1 by omega]
  refine kLoop_out ?_
  unfold b_X11_error_L19 b_X11_error_t_1
  show (if g 6 ≤ nI n then Sum.inr ((if g 6 = 0 then g 6 else if g 9 ≤ 0 then g 12 else g 6), g, t) else _) = _
  rw [if_pos (show g 6 ≤ nI n by rw [h6]; exact nI_le (Nat.le_refl _) (by omega)), h6]
theorem eR_end1 {text g t : Nat → Int32} {n m : Nat} (hn : n ≤ 90) (h6 : g 6 = nI n) (hm : 1 ≤ m ∧ m ≤ 4) (h9 : g 9 = nI m) : (eR text n g t).1 = nI n := by
  rw [eR_end hn h6, if_neg (show ¬ g 9 ≤ 0 by rw [h9]; exact nI_ge (a := 0) (b := m) (by omega) (by omega))]
  show (if nI n = 0 then nI n else nI n) = nI n
  by_cases c : nI n = 0
  · rw [if_pos c]
  · rw [if_neg c]
theorem eR_fail {text g t : Nat → Int32} {n k : Nat} (hn : n ≤ 90) (hk : k < n) (h6 : g 6 = nI n) (hu : (s_X11_takes g text t (nI k)).1 = 0) : (eR text k g t).1 = nI k := by
  unfold eR
  rw [show 91 - k = (90 - k) + 1 by omega]
  have e : b_X11_error_L19 text (nI k, g, t) = .inr (nI k, (s_X11_takes g text t (nI k)).2.1, (s_X11_takes g text t (nI k)).2.2) := by
    unfold b_X11_error_L19 b_X11_error_t_2
    show (if g 6 ≤ nI k then _ else (if (s_X11_takes g text t (nI k)).1 = 0 then _ else _)) = _
    rw [h6, if_neg (nI_ge hk (by omega)), if_pos hu]
  rw [kLoop_out e]
theorem eR_go {text g t g2 t2 : Nat → Int32} {n k : Nat} (hn : n ≤ 90) (hk : k < n) (h6 : g 6 = nI n) (hu : s_X11_takes g text t (nI k) = (1, g2, t2)) : eR text k g t = eR text (k + 1) g2 t2 := by
  unfold eR
  rw [show 91 - k = (91 - (k + 1)) + 1 by omega]
  refine kLoop_in ?_
  unfold b_X11_error_L19 b_X11_error_t_2
  show (if g 6 ≤ nI k then _ else (if (s_X11_takes g text t (nI k)).1 = 0 then _ else Sum.inl (nI k + 1, (s_X11_takes g text t (nI k)).2.1, (s_X11_takes g text t (nI k)).2.2))) = _
  rw [h6, if_neg (nI_ge hk (by omega)), hu, if_neg (show ¬ (1 : Int32) = 0 by decide), nI_succ]
theorem m9_pos {g : Nat → Int32} {m : Nat} (hm : 1 ≤ m ∧ m ≤ 4) (h9 : g 9 = nI m) : ¬ g 9 ≤ 0 := by
  rw [h9]; exact nI_ge (a := 0) (b := m) (by omega) (by omega)
theorem dg_eq (c : Int32) : s_X11_in c.toInt64 48 57 = s_X10_isWithin c 48 57 := inW (kE.lit (a := 48) (x := 48) (n := 48) (by decide) (by decide)) (kE.lit (a := 57) (x := 57) (n := 57) (by decide) (by decide))
theorem tk_dig {g text t : Nat → Int32} {k m : Nat} (hk : k < 2 ^ 31) (hm : 1 ≤ m ∧ m ≤ 4) (h9 : g 9 = nI m) (hd : ¬ s_X10_isWithin (text k) 48 57 = 0) : s_X11_takes g text t (nI k) = s_X11_takes_24 g t (if g 10 = 0 then text k - 48 else (10 * t (Int32.toNatClampNeg ((4 * g 8 + g 9) - 1)) + text k) - 48) := by
  rw [tk_eq]
  unfold tkT j_X11_takes_9
  rw [nI_clamp hk, if_neg (m9_pos hm h9), dg_eq, if_neg hd]
theorem tk_non {g text t : Nat → Int32} {k m : Nat} (hk : k < 2 ^ 31) (hm : 1 ≤ m ∧ m ≤ 4) (h9 : g 9 = nI m) (hd : s_X10_isWithin (text k) 48 57 = 0) : s_X11_takes g text t (nI k) = tkA g text t (nI k) := by
  rw [tk_eq]
  unfold tkT
  rw [nI_clamp hk, if_neg (m9_pos hm h9), dg_eq, if_pos hd]
theorem tk_zero {g text t : Nat → Int32} {k : Nat} (h9 : g 9 = 0) : s_X11_takes g text t (nI k) = tkA g text t (nI k) := by
  rw [tk_eq]
  unfold tkT
  rw [if_pos (show g 9 ≤ 0 by rw [h9]; decide)]
/-- a character that can't begin a segment -/
theorem t_fail {g text t : Nat → Int32} {k : Nat} (hk : k < 2 ^ 31) (h9 : g 9 = 0) (h : ¬ text k = 116 ∨ g 8 = 12) : (s_X11_takes g text t (nI k)).1 = 0 := by
  rw [tk_zero h9]
  unfold tkA s_X11_takes_10 s_X11_takes_13
  rw [nI_clamp hk]
  by_cases c : text k = 45
  · rw [if_pos c, if_neg (show ¬ g 9 = 1 by rw [h9]; decide)]
  · rw [if_neg c, if_pos (show g 9 ≤ 0 by rw [h9]; decide)]
    have e : s_X11_letterOf (g 9) = 116 := by rw [h9]; rfl
    rw [e]
    by_cases c2 : text k = 116
    · rw [if_pos c2, if_pos (h.resolve_left (fun z => z c2))]
    · rw [if_neg c2]
theorem t_go {g text t : Nat → Int32} {k : Nat} (hk : k < 2 ^ 31) (h9 : g 9 = 0) (h : text k = 116) (h8 : ¬ g 8 = 12) : s_X11_takes g text t (nI k) = (1, upd (upd (upd (upd g 13 (nI k)) 9 1) 10 0) 11 0, t) := by
  rw [tk_zero h9]
  unfold tkA s_X11_takes_13 s_X11_takes_12
  have e : s_X11_letterOf (g 9) = 116 := by rw [h9]; rfl
  rw [nI_clamp hk, h, if_neg (by decide), if_pos (show g 9 ≤ 0 by rw [h9]; decide), e, if_pos rfl, if_neg h8, if_pos h9, h9]
  rfl
theorem mi_go {g text t : Nat → Int32} {k : Nat} (hk : k < 2 ^ 31) (h9 : g 9 = 1) (h10 : g 10 = 0) (h11 : g 11 = 0) (h : text k = 45) : s_X11_takes g text t (nI k) = (1, upd g 11 1, t) := by
  rw [tk_non (m := 1) hk (by decide) h9 (by rw [h]; decide)]
  unfold tkA s_X11_takes_10
  rw [nI_clamp hk, if_pos h, if_pos h9, if_pos h10, if_pos h11]
/-- a number can't begin with this character -/
theorem n0_fail {g text t : Nat → Int32} {k m : Nat} (hk : k < 2 ^ 31) (hm : 1 ≤ m ∧ m ≤ 4) (h9 : g 9 = nI m) (h10 : g 10 = 0) (hd : s_X10_isWithin (text k) 48 57 = 0) (hneg : m = 1 → g 11 = 0 → ¬ text k = 45) : (s_X11_takes g text t (nI k)).1 = 0 := by
  rw [tk_non hk hm h9 hd]
  unfold tkA s_X11_takes_10
  rw [nI_clamp hk]
  by_cases c : text k = 45
  · rw [if_pos c]
    show (if g 9 = 1 then (if g 10 = 0 then (if g 11 = 0 then (1 : Int32) else 0) else 0) else 0) = 0
    by_cases c1 : g 9 = 1
    · have m1 : m = 1 := nI_inj (by omega) (by decide) (h9.symm.trans c1)
      rw [if_pos c1, if_pos h10, if_neg (fun z => hneg m1 z c)]
    · rw [if_neg c1]
  · rw [if_neg c, if_neg (m9_pos hm h9), if_pos h10]
theorem sl_ix {s m : Nat} (hs : s < 12) (hm : 1 ≤ m ∧ m ≤ 4) : Int32.toNatClampNeg ((4 * nI s + nI m) - 1) = 4 * s + m - 1 := by
  have e1 : 4 * nI s = nI (4 * s) := nI_mul (a := 4) (by omega) (by omega) (by decide)
  have e2 : nI (4 * s + m) - 1 = nI (4 * s + m - 1) := nI_minus (b := 1) (by omega) (by omega)
  rw [e1, nI_plus (by omega), e2, nI_clamp (by omega)]
theorem rs_end {f codes : Nat → Int32} {n p : Nat} {x : Int32} (h1 : f 1 = nI n) (h3 : f 3 = nI p) (h : n ≤ p) (hp : p < 2 ^ 31) : s_X8_readSign f codes x = (0, f) := by
  unfold s_X8_readSign
  rw [if_pos (show f 1 ≤ f 3 by rw [h1, h3]; exact nI_le h hp)]
theorem at90 (f : Nat → Int32) {n : Nat} (h : n < 90) {x : Int32} (hx : x = nI n) : s_X10_at 90 f x = f n := by
  rw [hx]; exact at_nI h (by decide)
theorem rs_no {f codes : Nat → Int32} {n p : Nat} {x : Int32} (hn : n ≤ 90) (h1 : f 1 = nI n) (h3 : f 3 = nI p) (h : p < n) (hx : ¬ codes p = x) : s_X8_readSign f codes x = (0, f) := by
  unfold s_X8_readSign
  rw [if_neg (show ¬ f 1 ≤ f 3 by rw [h1, h3]; exact nI_ge h (by omega)), at90 codes (n := p) (by omega) h3, if_neg hx]
theorem rs_yes {f codes : Nat → Int32} {n p : Nat} {x : Int32} (hn : n ≤ 90) (h1 : f 1 = nI n) (h3 : f 3 = nI p) (h : p < n) (hx : codes p = x) : s_X8_readSign f codes x = (1, upd f 3 (nI (p + 1))) := by
  unfold s_X8_readSign
  rw [if_neg (show ¬ f 1 ≤ f 3 by rw [h1, h3]; exact nI_ge h (by omega)), at90 codes (n := p) (by omega) h3, if_pos hx, h3, nI_succ]
/-- digits, one behind the other -/
theorem rn_loop {text codes : Nat → Int32} {n s m : Nat} (hn : n ≤ 90) (hc : ∀ i : Nat, i < n → text i = codes i) (hs : s < 12) (hm : 1 ≤ m ∧ m ≤ 4) : ∀ (r d k : Nat) (h g t : Nat → Int32), d + r = 4 → k ≤ n → h 1 = nI n → h 3 = nI k → g 6 = nI n → g 8 = nI s → g 9 = nI m → g 10 = nI d → (d = 0 → h 4 = 0) → (1 ≤ d → t (4 * s + m - 1) = h 4) → ∃ (d2 k2 : Nat) (h2 g2 t2 : Nat → Int32), kLoop default (b_X8_readNumber_L7 codes) (r + 1) (nI d, h) = (nI d2, h2) ∧ eR text k g t = eR text k2 g2 t2 ∧ d ≤ d2 ∧ d2 ≤ 4 ∧ k2 ≤ n ∧ h2 1 = nI n ∧ h2 3 = nI k2 ∧ h2 5 = h 5 ∧ (∀ j : Nat, j ≠ 10 → g2 j = g j) ∧ g2 10 = nI d2 ∧ (1 ≤ d2 → t2 (4 * s + m - 1) = h2 4) ∧ (∀ j : Nat, j ≠ 4 * s + m - 1 → t2 j = t j) ∧ (d2 = 4 ∨ k2 = n ∨ (k2 < n ∧ s_X10_isWithin (text k2) 48 57 = 0)) ∧ (d2 = d → k2 = k) := by
  intro r
  induction r with
  | zero =>
    intro d k h g t hd hk h1 h3 g6 g8 g9 g10 a0 a1
    have e4 : d = 4 := by omega
    subst e4
    refine ⟨4, k, h, g, t, ?_, rfl, Nat.le_refl _, Nat.le_refl _, hk, h1, h3, rfl, fun _ _ => rfl, g10, a1, fun _ _ => rfl, Or.inl rfl, fun _ => rfl⟩
    refine kLoop_out ?_
    unfold b_X8_readNumber_L7
    exact if_pos (show (4 : Int32) ≤ nI 4 by decide)
  | succ r ih =>
    intro d k h g t hd hk h1 h3 g6 g8 g9 g10 a0 a1
    have c4 : ¬ 4 ≤ nI d := nI_ge (a := d) (b := 4) (by omega) (by decide)
    by_cases ck : k = n
    · refine ⟨d, k, h, g, t, ?_, rfl, Nat.le_refl _, by omega, hk, h1, h3, rfl, fun _ _ => rfl, g10, a1, fun _ _ => rfl, Or.inr (Or.inl ck), fun _ => rfl⟩
      refine kLoop_out ?_
      unfold b_X8_readNumber_L7
      show (if 4 ≤ nI d then _ else (if h 1 ≤ h 3 then _ else _)) = _
      rw [if_neg c4, if_pos (show h 1 ≤ h 3 by rw [h1, h3, ck]; exact nI_le (Nat.le_refl _) (by omega))]
    · have hlt : k < n := by omega
      have c3 : ¬ h 1 ≤ h 3 := by rw [h1, h3]; exact nI_ge hlt (by omega)
      have ea : s_X10_at 90 codes (h 3) = text k := by rw [at90 codes (n := k) (by omega) h3, hc k hlt]
      by_cases cd : s_X10_isWithin (text k) 48 57 = 0
      · refine ⟨d, k, h, g, t, ?_, rfl, Nat.le_refl _, by omega, hk, h1, h3, rfl, fun _ _ => rfl, g10, a1, fun _ _ => rfl, Or.inr (Or.inr ⟨hlt, cd⟩), fun _ => rfl⟩
        refine kLoop_out ?_
        unfold b_X8_readNumber_L7
        show (if 4 ≤ nI d then _ else (if h 1 ≤ h 3 then _ else (if s_X10_isWithin (s_X10_at 90 codes (h 3)) 48 57 = 0 then _ else _))) = _
        rw [if_neg c4, if_neg c3, ea, if_pos cd]
      · have eb : b_X8_readNumber_L7 codes (nI d, h) = .inl (nI (d + 1), upd (upd h 4 (((h 4 * 10) + text k) - 48)) 3 (nI (k + 1))) := by
          unfold b_X8_readNumber_L7
          show (if 4 ≤ nI d then _ else (if h 1 ≤ h 3 then _ else (if s_X10_isWithin (s_X10_at 90 codes (h 3)) 48 57 = 0 then _ else Sum.inl (nI d + 1, upd (upd h 4 (((h 4 * 10) + s_X10_at 90 codes (h 3)) - 48)) 3 (h 3 + 1))))) = _
          rw [if_neg c4, if_neg c3, ea, if_neg cd, h3, nI_succ, nI_succ]
        have et : s_X11_takes g text t (nI k) = (1, upd g 10 (nI (d + 1)), upd t (4 * s + m - 1) (((h 4 * 10) + text k) - 48)) := by
          rw [tk_dig (by omega) hm g9 cd]
          unfold s_X11_takes_24
          have c5 : ¬ 5 ≤ g 10 + 1 := by rw [g10, ← nI_succ]; exact nI_ge (a := d + 1) (b := 5) (by omega) (by decide)
          rw [if_neg c5, g8, g9, sl_ix hs hm, g10, ← nI_succ]
          by_cases cz : d = 0
          · rw [if_pos (show nI d = 0 by rw [cz]; rfl), a0 cz, Int32.zero_mul, Int32.zero_add]
          · rw [if_neg (show ¬ nI d = 0 from fun z => cz (nI_inj (b := 0) (by omega) (by decide) z)), a1 (by omega), Int32.mul_comm]
        obtain ⟨d2, k2, h2, g2, t2, r1, r2, r3, r4, r5, r6, r7, r8, r9, r10, r11, r12, r13, r14⟩ := ih (d + 1) (k + 1) (upd (upd h 4 (((h 4 * 10) + text k) - 48)) 3 (nI (k + 1))) (upd g 10 (nI (d + 1))) (upd t (4 * s + m - 1) (((h 4 * 10) + text k) - 48)) (by omega) (by omega) (upn (by decide) (upn (by decide) h1)) ups (upn (by decide) g6) (upn (by decide) g8) (upn (by decide) g9) ups (fun z => absurd z (by omega)) (fun _ => by rw [ups]; exact (upn (by decide) ups).symm)
        refine ⟨d2, k2, h2, g2, t2, (kLoop_in eb).trans r1, (eR_go hn hlt g6 et).trans r2, by omega, r4, r5, r6, r7, r8.trans (upn (by decide) (upn (by decide) rfl)), fun j hj => (r9 j hj).trans (upn hj rfl), r10, r11, fun j hj => (r12 j hj).trans (upn hj rfl), r13, fun z => absurd z (by omega)⟩
/-- a number -/
theorem rn_step {text codes : Nat → Int32} {n s m k : Nat} {f g t : Nat → Int32} (hn : n ≤ 90) (hc : ∀ i : Nat, i < n → text i = codes i) (hs : s < 12) (hm : 1 ≤ m ∧ m ≤ 4) (hk : k ≤ n) (f1 : f 1 = nI n) (f3 : f 3 = nI k) (g6 : g 6 = nI n) (g8 : g 8 = nI s) (g9 : g 9 = nI m) (g10 : g 10 = 0) (hneg : m = 1 → g 11 = 0 → k < n → ¬ text k = 45) : (∃ (h : Nat → Int32) (k2 : Nat), s_X8_readNumber f codes = (0, h) ∧ h 1 = nI n ∧ h 3 = nI k2 ∧ k2 ≤ n ∧ (eR text k g t).1 = nI k2) ∨ (∃ (h g2 t2 : Nat → Int32) (k2 d2 : Nat), s_X8_readNumber f codes = (1, h) ∧ h 1 = nI n ∧ h 3 = nI k2 ∧ h 5 = f 5 ∧ k2 ≤ n ∧ eR text k g t = eR text k2 g2 t2 ∧ (∀ j : Nat, j ≠ 10 → g2 j = g j) ∧ g2 10 = nI d2 ∧ 1 ≤ d2 ∧ d2 ≤ 4 ∧ t2 (4 * s + m - 1) = h 4 ∧ (∀ j : Nat, j ≠ 4 * s + m - 1 → t2 j = t j) ∧ (k2 < n → ¬ s_X10_isWithin (text k2) 48 57 = 0 → d2 = 4)) := by
  obtain ⟨d2, k2, h2, g2, t2, r1, r2, r3, r4, r5, r6, r7, r8, r9, r10, r11, r12, r13, r14⟩ := rn_loop hn hc hs hm 4 0 k (upd f 4 0) g t (by decide) hk (upn (by decide) f1) (upn (by decide) f3) g6 g8 g9 g10 (fun _ => ups) (fun z => absurd z (by decide))
  have e : (Int32.toInt 4 - Int32.toInt 0).toNat + 1 = 4 + 1 := by decide
  have er : s_X8_readNumber f codes = s_X8_readNumber_1 (nI d2, h2) := by
    unfold s_X8_readNumber
    rw [e]
    exact congrArg s_X8_readNumber_1 r1
  unfold s_X8_readNumber_1 at er
  by_cases cd : d2 = 0
  · left
    refine ⟨h2, k2, ?_, r6, r7, r5, ?_⟩
    · rw [er, if_pos (show (nI d2, h2).1 ≤ 0 from (show nI d2 ≤ 0 by rw [cd]; decide))]
    · rw [r2]
      have q9 : g2 9 = nI m := (r9 9 (by decide)).trans g9
      have q6 : g2 6 = nI n := (r9 6 (by decide)).trans g6
      rcases r13 with y | y | ⟨y1, y2⟩
      · omega
      · rw [y]
        exact eR_end1 hn q6 hm q9
      · refine eR_fail hn y1 q6 (n0_fail (by omega) hm q9 (by rw [r10, cd]; rfl) y2 (fun z1 z2 => ?_))
        have ek : k2 = k := r14 cd
        rw [ek]
        exact hneg z1 ((r9 11 (by decide)).symm.trans z2) (by omega)
  · right
    refine ⟨h2, g2, t2, k2, d2, ?_, r6, r7, r8.trans (upn (by decide) rfl), r5, r2, r9, r10, by omega, r4, r11 (by omega), r12, fun z1 z2 => ?_⟩
    · rw [er, if_neg (show ¬ (nI d2, h2).1 ≤ 0 from nI_ge (a := 0) (b := d2) (by omega) (by omega))]
    · rcases r13 with y | y | ⟨y1, y2⟩
      · exact y
      · omega
      · exact absurd y2 z2
