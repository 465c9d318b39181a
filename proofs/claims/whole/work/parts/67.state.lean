/-! the relation: now, the saved states, the text -/
theorem kCopy {off N : Nat} {src : Nat → Int64} {b : Int32 × (Nat → Int64) → (Int32 × (Nat → Int64)) ⊕ (Int32 × (Nat → Int64))} {D0 : Int32 × (Nat → Int64)} (hb : ∀ (i : Nat) (g : Nat → Int64), i < N → b (nI i, g) = .inl (nI (i + 1), vp_updL g (off + i) (src i))) (he : ∀ g : Nat → Int64, b (nI N, g) = .inr (nI N, g)) : ∀ (n i : Nat) (g : Nat → Int64), i + n = N → ∀ k : Nat, (kLoop D0 b (n + 1) (nI i, g)).2 k = if off + i ≤ k ∧ k < off + N then src (k - off) else g k := by
  intro n
  induction n with
  | zero =>
    intro i g h k
    have e : i = N := by omega
    subst e
    rw [kLoop_out (he g), if_neg (by omega)]
  | succ n ih =>
    intro i g h k
    rw [kLoop_in (hb i g (by omega)), ih (i + 1) _ (by omega) k]
    by_cases c : k = off + i
    · rw [if_neg (by omega), if_pos (by omega), c, upsL]
      congr 1; omega
    · have e : vp_updL g (off + i) (src i) k = g k := upnL c rfl
      rw [e]
      by_cases c2 : off + i ≤ k ∧ k < off + N
      · rw [if_pos c2, if_pos (by omega)]
      · rw [if_neg c2, if_neg (by omega)]
def kSt (S : Nat → Nat → Int32) (j : Int64) (w : Nat → Int64) : Prop := ∃ T : Int, T ≤ 20000 ∧ (w 32).toInt = T ∧ kRel T S j w ∧ kRn 0 w
theorem kSt.cg {S : Nat → Nat → Int32} {j : Int64} {w v : Nat → Int64} (h : kSt S j w) (e : ∀ k : Nat, k < 294 → v k = w k) : kSt S j v := by
  obtain ⟨T, h1, h2, h3, h4⟩ := h
  refine ⟨T, h1, by rw [e 32 (by decide)]; exact h2, h3.cg (fun k hk => ⟨rfl, e k (by omega)⟩) (fun _ _ _ => rfl) (fun k _ hk => e k hk) rfl, h4.cg (Int.le_refl _) (fun k hk => e k (by omega)) (h3.e 43 (by decide)).kinL.2⟩
theorem kSt.sb {S : Nat → Nat → Int32} {j : Int64} {w : Nat → Int64} (h : kSt S j w) : kSb S := by
  obtain ⟨T, h1, h2, h3, h4⟩ := h
  have b : ∀ x : Int32, kIn x 0 1 → kb x := fun x hx => by
    have h1 := hx.1
    have h2 := hx.2
    by_cases c : x.toInt = 0
    · exact Or.inl (Int32.toInt_inj.mp c)
    · exact Or.inr (Int32.toInt_inj.mp (by show x.toInt = 1; omega))
  exact ⟨b _ (h3.e 34 (by decide)).kin, b _ (h3.e 16 (by decide)).kin, b _ (h3.e 30 (by decide)).kin⟩
theorem kSt.P {S : Nat → Nat → Int32} {j : Int64} {w : Nat → Int64} (h : kSt S j w) : kP w := by
  obtain ⟨T, h1, h2, h3, h4⟩ := h
  refine kP.mk (h3.e 35 (by decide)).kinL ⟨(h3.e 43 (by decide)).kinL, h3.2.2.1.1.many (by decide), h3.2.2.2.1.1.many (by decide), h3.2.2.2.2.1.many (by decide)⟩ (fun z f => ?_)
  obtain ⟨i, hi, hi35, hp1, hp2⟩ := h4.2 (Or.inl z)
  have h43u : (w 43).toInt ≤ 12 := (h3.e 43 (by decide)).kinL.2
  rw [of2_at (by omega) hi35]
  intro y
  have := (hp1 z).1
  rw [y] at this
  exact absurd this (by decide)
def kSv (fs : Nat → Int32) (Y : kTS) (n : Int32) (sv : Nat → Int64) : Prop := ∃ p q : Nat, p < 6 ∧ q ≤ 6 ∧ fs 1 = nI p ∧ fs 2 = nI q ∧ n = nI q ∧ p ≤ Y.1 ∧ ∀ b : Nat, b < q → (p + 5 - b) % 6 < Y.1 ∧ kSt (Y.2.2.1 ((p + 5 - b) % 6)) (Y.2.2.2 ((p + 5 - b) % 6)) (fun k => sv ((q - 1 - b) * 294 + k))
def kTx (ft codes : Nat → Int32) (n : Int32) (text : Nat → Int32) : Prop := ∃ m : Nat, m ≤ 90 ∧ ft 1 = nI m ∧ n = nI m ∧ ∀ i : Nat, i < m → text i = codes i
def rR (X : kXS) (Y : kTS) (M : kMS) : Prop := kSt X.1 X.2.1 M.2.1 ∧ kSv X.2.2.2.2.1 Y (M.1 5) M.2.2.1 ∧ kTx X.2.2.2.2.2.1 X.2.2.2.2.2.2.1 (M.1 6) M.2.2.2.2.1
theorem kSt00 : kSt iS 17 iW := by
  refine ⟨0, by decide, by decide +kernel, kRel00 (Int.le_refl _), fun i hi => ?_, fun h => ?_⟩
  · have e : (iW 43).toInt = 0 := by decide +kernel
    rw [e] at hi
    omega
  · have e : iW 33 = 0 := by decide +kernel
    rw [e] at h
    rcases h with h | h
    · exact absurd h (by decide)
    · exact absurd h (by decide)
theorem rR00 : rR X00 Y00 M00 := ⟨kSt00, ⟨0, 0, by decide, by decide, rfl, rfl, rfl, Nat.le_refl _, fun b hb => absurd hb (Nat.not_lt_zero _)⟩, ⟨0, by decide, rfl, rfl, fun i hi => absurd hi (Nat.not_lt_zero _)⟩⟩
theorem rR.n5 {X : kXS} {Y : kTS} {M : kMS} (h : rR X Y M) : kIn (M.1 5) 0 6 := by
  obtain ⟨p, q, h1, h2, h3, h4, h5, h6, h7⟩ := h.2.1
  rw [h5]
  unfold kIn
  rw [nI_toInt (by omega)]
  omega
theorem rR.n6 {X : kXS} {Y : kTS} {M : kMS} (h : rR X Y M) : kIn (M.1 6) 0 90 := by
  obtain ⟨m, h1, h2, h3, h4⟩ := h.2.2
  rw [h3]
  unfold kIn
  rw [nI_toInt (by omega)]
  omega
theorem rR.same {X : kXS} {Y : kTS} {M M2 : kMS} (h : rR X Y M) (e5 : M2.1 5 = M.1 5) (e6 : M2.1 6 = M.1 6) (ew : M2.2.1 = M.2.1) (es : M2.2.2.1 = M.2.2.1) (et : M2.2.2.2.2.1 = M.2.2.2.2.1) : rR X Y M2 := by
  unfold rR
  rw [e5, e6, ew, es, et]
  exact h
/-! saving and restoring -/
theorem nI_mul {a c : Nat} (h : a * c < 2 ^ 31) (hc : c < 2 ^ 31) (ha : a < 2 ^ 31) : nI a * nI c = nI (a * c) := by
  refine Int32.toInt_inj.mp ?_
  rw [Int32.toInt_mul, nI_toInt ha, nI_toInt hc, nI_toInt h]
  have e : (a : Int) * (c : Int) = ((a * c : Nat) : Int) := (Int.natCast_mul a c).symm
  rw [e, kn_bmod (by omega) (by omega)]
theorem sv_L52 (m : (Nat → Int32) × (Nat → Int64)) (w dst : Nat → Int64) {q : Nat} (hq : q ≤ 5) (h : m.1 5 = nI q) (k : Nat) : (kLoop default (b_X11_save_L52 m w) ((Int32.toInt 294 - Int32.toInt 0).toNat + 1) (0, dst)).2 k = if q * 294 ≤ k ∧ k < q * 294 + 294 then w (k - q * 294) else dst k := by
  have e : (Int32.toInt 294 - Int32.toInt 0).toNat + 1 = 294 + 1 := by decide
  rw [e]
  have r := kCopy (off := q * 294) (N := 294) (src := w) (b := b_X11_save_L52 m w) (D0 := default) (fun i g hi => ?_) (fun g => ?_) 294 0 dst (by decide) k
  · rw [show (0 : Int32) = nI 0 from rfl, r, Nat.add_zero]
  · unfold b_X11_save_L52
    have c : ¬ 294 ≤ nI i := nI_ge hi (by decide)
    have e1 : m.1 5 * 294 = nI (q * 294) := by rw [h]; exact nI_mul (c := 294) (by omega) (by decide) (by omega)
    show (if 294 ≤ nI i then (Sum.inr (nI i, g)) else (Sum.inl (nI i + 1, vp_updL g (Int32.toNatClampNeg ((m.1 5) * 294 + nI i)) (w (Int32.toNatClampNeg (nI i)))))) = _
    rw [if_neg c, e1, nI_plus (by omega), nI_clamp (by omega), nI_clamp (by omega), nI_succ]
  · unfold b_X11_save_L52
    exact if_pos (by show (294 : Int32) ≤ nI 294; decide)
theorem sv_L11 (dst : Nat → Int64) (k : Nat) : (kLoop default (b_X11_save_L11) ((Int32.toInt 1470 - Int32.toInt 0).toNat + 1) (0, dst)).2 k = if k < 1470 then dst (k + 294) else dst k := by
  have e : (Int32.toInt 1470 - Int32.toInt 0).toNat + 1 = 1470 + 1 := by decide
  rw [e]
  have r := kShift 0 294 1470 dst b_X11_save_L11 (fun z => ?_) (by decide) (by decide) default k
  · rw [r]
    by_cases c : k < 1470
    · rw [if_pos c, if_pos (by omega)]
    · rw [if_neg c, if_neg (by omega)]
  · unfold b_X11_save_L11
    have e0 : nI 0 + z.1 = z.1 := by rw [show nI 0 = 0 from rfl, Int32.zero_add]
    rw [e0]
    rfl
theorem sv_pre (f : Nat → Int32) (sv : Nat → Int64) {q : Nat} (hq : q ≤ 6) (h : f 5 = nI q) : (j_X11_save_2 f sv).1 5 = nI (if q = 6 then 5 else q) ∧ ∀ k : Nat, (j_X11_save_2 f sv).2 k = if q = 6 then (if k < 1470 then sv (k + 294) else sv k) else sv k := by
  unfold j_X11_save_2 j_X11_save_1
  by_cases c : q = 6
  · have c6 : f 5 = 6 := by rw [h, c]; rfl
    rw [if_pos c6, if_pos c]
    refine ⟨?_, fun k => ?_⟩
    · show upd f 5 (f 5 - 1) 5 = _
      rw [ups, c6]; decide
    · rw [if_pos c, ← sv_L11]
  · have c6 : ¬ f 5 = 6 := fun z => c (nI_inj (by omega) (by decide) (h.symm.trans z))
    rw [if_neg c6, if_neg c]
    exact ⟨h, fun k => by rw [if_neg c]⟩
theorem sv_shape {f : Nat → Int32} {sv w : Nat → Int64} {m : (Nat → Int32) × (Nat → Int64)} (hm : j_X11_save_2 f sv = m) : s_X11_save f sv w = (upd m.1 5 (m.1 5 + 1), (kLoop default (b_X11_save_L52 m w) ((Int32.toInt 294 - Int32.toInt 0).toNat + 1) (0, m.2)).2) := by
  unfold s_X11_save s_X11_save_4 s_X11_save_3
  rw [hm]
theorem sv_val (f : Nat → Int32) (sv w : Nat → Int64) {q : Nat} (hq : q ≤ 6) (h : f 5 = nI q) : (s_X11_save f sv w).1 5 = nI (if q = 6 then 6 else q + 1) ∧ ∀ k : Nat, (s_X11_save f sv w).2 k = if q = 6 then (if k < 1470 then sv (k + 294) else if k < 1764 then w (k - 1470) else sv k) else (if q * 294 ≤ k ∧ k < q * 294 + 294 then w (k - q * 294) else sv k) := by
  obtain ⟨m1, m2⟩ := sv_pre f sv hq h
  have sh := sv_shape (f := f) (sv := sv) (w := w) rfl
  generalize j_X11_save_2 f sv = m at m1 m2 sh
  have lay := sv_L52 m w m.2 (q := if q = 6 then 5 else q) (by split <;> omega) m1
  generalize (kLoop default (b_X11_save_L52 m w) ((Int32.toInt 294 - Int32.toInt 0).toNat + 1) (0, m.2)) = z at sh lay
  rw [sh]
  refine ⟨?_, fun k => ?_⟩
  · show upd m.1 5 (m.1 5 + 1) 5 = _
    rw [ups, m1]
    by_cases c : q = 6
    · rw [if_pos c, if_pos c]; decide
    · rw [if_neg c, if_neg c, nI_succ]
  · refine (lay k).trans ?_
    rw [m2]
    by_cases c : q = 6
    · rw [if_pos c, if_pos c, if_pos c]
      by_cases c1 : k < 1470
      · rw [if_neg (by omega), if_pos c1, if_pos c1]
      · by_cases c2 : k < 1764
        · rw [if_pos (by omega), if_neg c1, if_pos c2]
        · rw [if_neg (by omega), if_neg c1, if_neg c1, if_neg c2]
    · rw [if_neg c, if_neg c, if_neg c]
theorem kSv.keep {fs : Nat → Int32} {Y : kTS} {n : Int32} {sv w : Nat → Int64} {S : Nat → Nat → Int32} {j : Int64} {f : Nat → Int32} (h : kSv fs Y n sv) (hst : kSt S j w) (hf : f 5 = n) : ∃ p : Nat, fs 1 = nI p ∧ p < 6 ∧ p ≤ Y.1 ∧ ∀ (uu : Nat → Nat) (X : kXS), X.1 = S → X.2.1 = j → kSv (kKf fs) (tK p X Y uu) ((s_X11_save f sv w).1 5) (s_X11_save f sv w).2 := by
  obtain ⟨p, q, h1, h2, h3, h4, h5, h6, h7⟩ := h
  refine ⟨p, h3, h1, h6, fun uu X hX1 hX2 => ?_⟩
  obtain ⟨v1, v2⟩ := sv_val f sv w h2 (hf.trans h5)
  have k1 : kKf fs 1 = nI (if p + 1 = 6 then 0 else p + 1) := by
    unfold kKf
    rw [upn (by decide) ups, h3]
    by_cases c : p + 1 = 6
    · have e : p = 5 := by omega
      subst e
      decide
    · rw [if_neg c, ← nI_succ, if_neg (show ¬ 6 ≤ nI (p + 1) from nI_ge (a := p + 1) (b := 6) (by omega) (by decide))]
  have k2 : kKf fs 2 = nI (if q = 6 then 6 else q + 1) := by
    unfold kKf
    rw [ups, h4]
    by_cases c : q = 6
    · subst c
      decide
    · rw [if_neg c, ← nI_succ, if_neg (show ¬ 6 < nI (q + 1) from nI_nlt (a := 6) (b := q + 1) (by omega) (by omega))]
  have m1 : p < (tK p X Y uu).1 ∧ Y.1 ≤ (tK p X Y uu).1 := by
    show p < kKm p Y.1 ∧ Y.1 ≤ kKm p Y.1
    unfold kKm
    by_cases c : p = Y.1
    · rw [if_pos c]; omega
    · rw [if_neg c]; omega
  refine ⟨if p + 1 = 6 then 0 else p + 1, if q = 6 then 6 else q + 1, by split <;> omega, by split <;> omega, k1, k2, v1, by split <;> omega, fun b hb => ?_⟩
  have es : ((if p + 1 = 6 then 0 else p + 1) + 5 - b) % 6 = (p + 6 - b) % 6 := by
    have hb6 : b < 6 := by split at hb <;> omega
    by_cases c : p + 1 = 6
    · rw [if_pos c]; omega
    · rw [if_neg c]
  rw [es]
  by_cases b0 : b = 0
  · subst b0
    have e : (p + 6 - 0) % 6 = p := by omega
    rw [e]
    refine ⟨m1.1, ?_⟩
    show kSt (va_up Y.2.2.1 p X.1 p) (va_up Y.2.2.2 p X.2.1 p) _
    have e1 : va_up Y.2.2.1 p X.1 p = S := by unfold va_up; rw [if_pos rfl, hX1]
    have e2 : va_up Y.2.2.2 p X.2.1 p = j := by unfold va_up; rw [if_pos rfl, hX2]
    rw [e1, e2]
    refine hst.cg (fun k hk => ?_)
    show (s_X11_save f sv w).2 _ = _
    rw [v2]
    by_cases c : q = 6
    · rw [if_pos c, if_pos c, if_neg (by omega), if_pos (by omega)]
      exact congrArg w (by omega)
    · rw [if_neg c, if_neg c, if_pos (by omega)]
      exact congrArg w (by omega)
  · have hb2 : b - 1 < q := by split at hb <;> omega
    have hb6 : b < 6 := by split at hb <;> omega
    obtain ⟨o1, o2⟩ := h7 (b - 1) hb2
    have e : (p + 6 - b) % 6 = (p + 5 - (b - 1)) % 6 := by congr 1; omega
    rw [e]
    have ne : (p + 5 - (b - 1)) % 6 ≠ p := by omega
    refine ⟨by omega, ?_⟩
    show kSt (va_up Y.2.2.1 p X.1 _) (va_up Y.2.2.2 p X.2.1 _) _
    have e1 : va_up Y.2.2.1 p X.1 ((p + 5 - (b - 1)) % 6) = Y.2.2.1 ((p + 5 - (b - 1)) % 6) := by unfold va_up; rw [if_neg ne]
    have e2 : va_up Y.2.2.2 p X.2.1 ((p + 5 - (b - 1)) % 6) = Y.2.2.2 ((p + 5 - (b - 1)) % 6) := by unfold va_up; rw [if_neg ne]
    rw [e1, e2]
    refine o2.cg (fun k hk => ?_)
    show (s_X11_save f sv w).2 _ = _
    rw [v2]
    by_cases c : q = 6
    · rw [if_pos c, if_pos c, if_pos (by omega)]
      exact congrArg sv (by omega)
    · rw [if_neg c] at hb
      rw [if_neg c, if_neg c, if_neg (by omega)]
      exact congrArg sv (by omega)
