/-! the text: append, errorPosition, load -/
theorem put90 (f : Nat → Int32) {n : Nat} (h : n < 90) {x p : Int32} (hx : x = nI n) : s_X10_put 90 f x p = upd f n p := by
  unfold s_X10_put
  rw [hx, if_neg (show ¬ nI n < 0 from nI_pos (by omega)), if_neg (show ¬ nI 90 ≤ nI n from nI_ge h (by decide)), nI_clamp (by omega)]
theorem full_no {ft : Nat → Int32} {m : Nat} (h : ft 1 = nI m) (hm : m < 90) : s_X8_isFull ft = 0 := by
  unfold s_X8_isFull
  rw [h]
  exact if_pos (nI_lt (b := 90) hm (by decide))
theorem full_yes {ft : Nat → Int32} {m : Nat} (h : ft 1 = nI m) (hm : m = 90) : ¬ s_X8_isFull ft = 0 := by
  unfold s_X8_isFull
  rw [h, hm, if_neg (show ¬ nI 90 < 90 by decide)]
  decide
theorem ok_append {l : Launch} (hl0 : l.stackTraces = false) (D : va_G) (cI cJ cO : ClassId) (z : zT) {X : kXS} {Y : kTS} {M : kMS} (b o : Nat) (u : Nat → Nat) (fo : Nat → Int64) (p0 : Int32) (h : rR X Y M) : lStep l D cI cJ cO z yL_append cL_append 4 [(0, 9, 12, 15), (0, 9, 15, 24)] [.ref b, .int p0, .ref o] b o u X Y fo (a_append M p0) ((q_append M p0).1 7) (fun X2 Y2 => rR X2 Y2 (q_append M p0)) := by
  obtain ⟨m, t1, t2, t3, t4⟩ := id h.2.2
  have e : s_X11_in p0.toInt64 32 126 = s_X10_isWithin p0 32 126 := inW (kE.lit (a := 32) (x := 32) (n := 32) (by decide) (by decide)) (kE.lit (a := 126) (x := 126) (n := 126) (by decide) (by decide))
  by_cases v : s_X10_isWithin p0 32 126 = 0
  · refine lSt_t (by decide) (by decide) (w_append_0 l hl0 D cI cJ cO z b o u X Y fo p0 v) rfl (by decide) ?_ h
    unfold q_append s_X11_append s_X11_append_1 s_X11_refuse
    rw [if_pos (e.trans v)]
  · have c1 : ¬ s_X11_in p0.toInt64 32 126 = 0 := by rw [e]; exact v
    by_cases c90 : m = 90
    · have v2 := full_yes t2 c90
      have c2 : M.1 6 = 90 := by rw [t3, c90]; rfl
      refine lSt_t (by decide) (by decide) (w_append_1 l hl0 D cI cJ cO z b o u X Y fo p0 v v2) rfl (by decide) ?_ h
      unfold q_append s_X11_append s_X11_append_2 s_X11_refuse
      rw [if_neg c1, if_pos c2]
    · have hm : m < 90 := by omega
      have v2 := full_no t2 hm
      have c2 : ¬ M.1 6 = 90 := by rw [t3]; exact nI_ne (b := 90) (by omega) (by decide) c90
      have hq : s_X11_append M.1 M.2.2.2.2.1 p0 = (nI (m + 1), upd (upd M.1 7 0) 6 (nI (m + 1)), upd M.2.2.2.2.1 m p0) := by
        unfold s_X11_append
        rw [if_neg c1, if_neg c2, t3, nI_clamp (by omega), nI_succ]
      have hx : s_X10_append X.2.2.2.2.2.1 X.2.2.2.2.2.2.1 p0 = (nI (m + 1), upd X.2.2.2.2.2.1 1 (nI (m + 1)), upd X.2.2.2.2.2.2.1 m p0) := by
        unfold s_X10_append s_X10_append_1 s_X8_add s_X8_add_1
        rw [put90 _ hm t2, t2, ← nI_succ]
        show (upd X.2.2.2.2.2.1 1 (nI (m + 1)) 1, _, _) = _
        rw [ups]
      have hq2 : q_append M p0 = (upd (upd M.1 7 0) 6 (nI (m + 1)), M.2.1, M.2.2.1, M.2.2.2.1, upd M.2.2.2.2.1 m p0, M.2.2.2.2.2) := by
        unfold q_append
        rw [hq]
      have ha : a_append M p0 = nI (m + 1) := by
        unfold a_append
        rw [hq]
      have hn : n_append_2 X p0 = (X.1, X.2.1, X.2.2.1, X.2.2.2.1, X.2.2.2.2.1, upd X.2.2.2.2.2.1 1 (nI (m + 1)), upd X.2.2.2.2.2.2.1 m p0, X.2.2.2.2.2.2.2.1, X.2.2.2.2.2.2.2.2) := by
        unfold n_append_2
        rw [hx]
      have hr : r_append_2 X p0 = nI (m + 1) := by
        unfold r_append_2
        rw [hx]
      have hw := w_append_2 l hl0 D cI cJ cO z b o u X Y fo p0 v v2
      rw [hn, hr] at hw
      rw [hq2, ha]
      refine lSt_u (F := 3) (L := 67) (by decide) (by decide) hw (show upd (upd M.1 7 0) 6 (nI (m + 1)) 7 = 0 from upn (by decide) ups) rfl ⟨h.1, ?_, ?_⟩
      · have e5 : upd (upd M.1 7 0) 6 (nI (m + 1)) 5 = M.1 5 := upn (by decide) (upn (by decide) rfl)
        show kSv _ _ (upd (upd M.1 7 0) 6 (nI (m + 1)) 5) _
        rw [e5]
        exact h.2.1
      · refine ⟨m + 1, by omega, (show upd X.2.2.2.2.2.1 1 (nI (m + 1)) 1 = nI (m + 1) from ups), (show upd (upd M.1 7 0) 6 (nI (m + 1)) 6 = nI (m + 1) from ups), fun i hi => ?_⟩
        show upd M.2.2.2.2.1 m p0 i = upd X.2.2.2.2.2.2.1 m p0 i
        by_cases c : i = m
        · rw [c, ups, ups]
        · rw [upn c rfl, upn c rfl]
          exact t4 i (by omega)
theorem er_both {X : kXS} {Y : kTS} {M : kMS} (h : rR X Y M) : ∃ (n : Nat) (a : Int32) (hh F2 SC2 : Nat → Int32) (g2 t2 : Nat → Int32), n ≤ 90 ∧ M.1 6 = nI n ∧ s_X8_findError X.2.2.2.2.2.1 X.2.2.2.2.2.2.2.1 X.2.2.2.2.2.2.1 X.2.2.2.2.2.2.2.2 = (a, hh, F2, SC2) ∧ s_X11_error (upd M.1 7 0) M.2.2.2.2.1 M.2.2.2.2.2 = (a, g2, t2) ∧ hh 1 = nI n ∧ (∀ i : Nat, i < n → M.2.2.2.2.1 i = X.2.2.2.2.2.2.1 i) ∧ (∀ k : Nat, k < 7 → g2 k = M.1 k) ∧ g2 7 = 0 ∧ (a = -10000 → ∃ s2 : Nat, s2 ≤ 12 ∧ F2 1 = nI s2 ∧ g2 8 = nI s2 ∧ (∀ i : Nat, i < 4 * s2 → t2 i = SC2 i) ∧ ∀ i : Nat, i < s2 → ¬ s_X10_isSegment (SC2 (4 * i)) (SC2 (4 * i + 1)) (SC2 (4 * i + 2)) (SC2 (4 * i + 3)) = 0) := by
  obtain ⟨n, t1, t2, t3, t4⟩ := id h.2.2
  obtain ⟨a, hh, F2, SC2, r1, r2, r3, r4⟩ := fe_eq (F := X.2.2.2.2.2.2.2.1) (SC := X.2.2.2.2.2.2.2.2) (g := upd M.1 7 0) (t := M.2.2.2.2.2) t1 t4 t2 (upn (by decide) t3)
  have fr := fr_X11_error (upd M.1 7 0) M.2.2.2.2.1 M.2.2.2.2.2 (show kIn (upd M.1 7 0 6) 0 90 by rw [upn (x := M.1 6) (by decide) rfl]; exact h.n6)
  generalize s_X11_error (upd M.1 7 0) M.2.2.2.2.1 M.2.2.2.2.2 = E at r3 r4 fr ⊢
  obtain ⟨x0, x1, x2⟩ := E
  have r3 : x0 = a := r3
  subst r3
  exact ⟨n, x0, hh, F2, SC2, x1, x2, t1, t3, r1, rfl, r2, t4, fun k hk => (fr k (by omega)).trans (upn (by omega) rfl), (fr 7 (by decide)).trans ups, r4⟩
theorem ok_errorPosition {X : kXS} {Y : kTS} {M : kMS} (h : rR X Y M) : r_errorPosition X = a_errorPosition M := by
  obtain ⟨n, a, hh, F2, SC2, g2, t2, h1, h2, h3, h4, h5, h6, h7, h8, h9⟩ := er_both h
  unfold r_errorPosition a_errorPosition s_X10_errorPosition s_X10_errorPosition_1 s_X11_errorPosition s_X11_errorPosition_1
  rw [h3, h4]
theorem ok_errorPosition2 {X : kXS} {Y : kTS} {M : kMS} (h : rR X Y M) : rR (n_errorPosition X) Y (q_errorPosition M) := by
  obtain ⟨n, a, hh, F2, SC2, g2, t2, h1, h2, h3, h4, h5, h6, h7, h8, h9⟩ := er_both h
  unfold n_errorPosition q_errorPosition s_X10_errorPosition s_X10_errorPosition_1 s_X11_errorPosition s_X11_errorPosition_1
  rw [h3, h4]
  refine ⟨h.1, ?_, n, h1, h5, (h7 6 (by decide)).trans h2, h6⟩
  show kSv _ _ (g2 5) _
  rw [h7 5 (by decide)]
  exact h.2.1
/-- the words that load lays -/
theorem kLoad {told : Nat → Int32} {N : Nat} (hN : N ≤ 12) {b : Int32 × (Nat → Int64) → (Int32 × (Nat → Int64)) ⊕ (Int32 × (Nat → Int64))} {D0 : Int32 × (Nat → Int64)} (hb : ∀ (i : Nat) (g : Nat → Int64), i < N → b (nI i, g) = .inl (nI (i + 1), vp_updL (vp_updL (vp_updL (vp_updL g (50 + 4 * i) (told (4 * i)).toInt64) (50 + 4 * i + 1) (told (4 * i + 1)).toInt64) (50 + 4 * i + 2) (told (4 * i + 2)).toInt64) (50 + 4 * i + 3) (told (4 * i + 3)).toInt64)) (he : ∀ g : Nat → Int64, b (nI N, g) = .inr (nI N, g)) : ∀ (n i : Nat) (g : Nat → Int64), i + n = N → ∀ k : Nat, (kLoop D0 b (n + 1) (nI i, g)).2 k = if 50 + 4 * i ≤ k ∧ k < 50 + 4 * N then (told (k - 50)).toInt64 else g k := by
  intro n
  induction n with
  | zero =>
    intro i g h k
    have e : i = N := by omega
    subst e
    rw [kLoop_out (he g), if_neg (by omega)]
  | succ n ih =>
    intro i g h k
    rw [kLoop_in (hb i g (by omega)), ih (i + 1) _ (by omega) k]
    have hV : vp_updL (vp_updL (vp_updL (vp_updL g (50 + 4 * i) (told (4 * i)).toInt64) (50 + 4 * i + 1) (told (4 * i + 1)).toInt64) (50 + 4 * i + 2) (told (4 * i + 2)).toInt64) (50 + 4 * i + 3) (told (4 * i + 3)).toInt64 k = if k = 50 + 4 * i + 3 then (told (4 * i + 3)).toInt64 else if k = 50 + 4 * i + 2 then (told (4 * i + 2)).toInt64 else if k = 50 + 4 * i + 1 then (told (4 * i + 1)).toInt64 else if k = 50 + 4 * i then (told (4 * i)).toInt64 else g k := rfl
    rw [hV]
    by_cases c : 50 + 4 * (i + 1) ≤ k ∧ k < 50 + 4 * N
    · rw [if_pos c, if_pos (by omega)]
    · rw [if_neg c]
      by_cases c3 : k = 50 + 4 * i + 3
      · rw [if_pos c3, if_pos (by omega), show k - 50 = 4 * i + 3 by omega]
      · rw [if_neg c3]
        by_cases c2 : k = 50 + 4 * i + 2
        · rw [if_pos c2, if_pos (by omega), show k - 50 = 4 * i + 2 by omega]
        · rw [if_neg c2]
          by_cases c1 : k = 50 + 4 * i + 1
          · rw [if_pos c1, if_pos (by omega), show k - 50 = 4 * i + 1 by omega]
          · rw [if_neg c1]
            by_cases c0 : k = 50 + 4 * i
            · rw [if_pos c0, if_pos (by omega), show k - 50 = 4 * i by omega]
            · rw [if_neg c0, if_neg (by omega)]
theorem ld_words {a : Int32} {g2 t2 : Nat → Int32} {u4 : (Nat → Int32) × (Nat → Int64)} {w : Nat → Int64} {s2 : Nat} (hs : s2 ≤ 12) (h8 : g2 8 = nI s2) (k : Nat) : (kLoop default (b_X11_load_L40 (a, g2, t2) u4) ((Int32.toInt (g2 8) - Int32.toInt 0).toNat + 1) (0, w)).2 k = if 50 ≤ k ∧ k < 50 + 4 * s2 then (t2 (k - 50)).toInt64 else w k := by
  have e : (Int32.toInt (g2 8) - Int32.toInt 0).toNat + 1 = s2 + 1 := by
    rw [h8, nI_toInt (by omega), Int32.toInt_zero]
    omega
  rw [e]
  have r := kLoad (told := t2) (N := s2) hs (b := b_X11_load_L40 (a, g2, t2) u4) (D0 := default) (fun i g hi => ?_) (fun g => ?_) s2 0 w (by omega) k
  · exact r
  · unfold b_X11_load_L40 b_X11_load_1 s_X11_lay
    have e1 : 4 * nI i = nI (4 * i) := nI_mul (a := 4) (by omega) (by omega) (by decide)
    have e2 : nI (4 * i) + 1 = nI (4 * i + 1) := nI_plus (b := 1) (by omega)
    have e3 : nI (4 * i) + 2 = nI (4 * i + 2) := nI_plus (b := 2) (by omega)
    have e4 : nI (4 * i) + 3 = nI (4 * i + 3) := nI_plus (b := 3) (by omega)
    have d1 : (50 : Int32) + nI (4 * i) = nI (50 + 4 * i) := nI_plus (a := 50) (by omega)
    have d2 : nI (50 + 4 * i) + 1 = nI (50 + 4 * i + 1) := nI_plus (b := 1) (by omega)
    have d3 : nI (50 + 4 * i) + 2 = nI (50 + 4 * i + 2) := nI_plus (b := 2) (by omega)
    have d4 : nI (50 + 4 * i) + 3 = nI (50 + 4 * i + 3) := nI_plus (b := 3) (by omega)
    show (if g2 8 ≤ nI i then _ else Sum.inl (nI i + 1, vp_updL (vp_updL (vp_updL (vp_updL g (Int32.toNatClampNeg (50 + 4 * nI i)) (t2 (Int32.toNatClampNeg (4 * nI i))).toInt64) (Int32.toNatClampNeg ((50 + 4 * nI i) + 1)) (t2 (Int32.toNatClampNeg (4 * nI i + 1))).toInt64) (Int32.toNatClampNeg ((50 + 4 * nI i) + 2)) (t2 (Int32.toNatClampNeg (4 * nI i + 2))).toInt64) (Int32.toNatClampNeg ((50 + 4 * nI i) + 3)) (t2 (Int32.toNatClampNeg (4 * nI i + 3))).toInt64)) = _
    rw [if_neg (show ¬ g2 8 ≤ nI i by rw [h8]; exact nI_ge hi (by omega)), e1, e2, e3, e4, d1, d2, d3, d4, nI_clamp (by omega), nI_clamp (by omega), nI_clamp (by omega), nI_clamp (by omega), nI_clamp (by omega), nI_clamp (by omega), nI_clamp (by omega), nI_clamp (by omega), nI_succ]
  · unfold b_X11_load_L40
    exact if_pos (show g2 8 ≤ nI s2 by rw [h8]; exact nI_le (Nat.le_refl _) (by omega))
theorem ok_load {l : Launch} (hl0 : l.stackTraces = false) (D : va_G) (cI cJ cO : ClassId) (z : zT) {X : kXS} {Y : kTS} {M : kMS} (b o : Nat) (u : Nat → Nat) (fo : Nat → Int64) (h : rR X Y M) : lStep l D cI cJ cO z yL_load cL_load 3 [(0, 8, 11, 15), (0, 8, 14, 24)] [.ref b, .ref o] b o u X Y fo (a_load M) ((q_load M).1 7) (fun X2 Y2 => rR X2 Y2 (q_load M)) := by
  obtain ⟨T, hT1, hT2, hr, hn⟩ := id h.1
  obtain ⟨n, a, hh, F2, SC2, g2, t2, h1, h2, h3, h4, h5, h6, h7, h8, h9⟩ := er_both h
  have e7 : (fun k => g2 k) 7 = 0 := h8
  have er := hr.runs g2
  have hs5 : g2 5 = M.1 5 := h7 5 (by decide)
  have hs6 : g2 6 = M.1 6 := h7 6 (by decide)
  -- the state that a refused load leaves
  have thr : ∀ c : Int32, rR (X.1, X.2.1, X.2.2.1, X.2.2.2.1, X.2.2.2.2.1, hh, X.2.2.2.2.2.2.1, F2, SC2) Y (upd g2 7 c, M.2.1, M.2.2.1, M.2.2.2.1, M.2.2.2.2.1, t2) := by
    intro c
    refine ⟨h.1, ?_, n, h1, h5, (show upd g2 7 c 6 = M.1 6 from upn (by decide) hs6).trans h2, h6⟩
    show kSv _ _ (upd g2 7 c 5) _
    rw [upn (x := M.1 5) (by decide) hs5]
    exact h.2.1
  by_cases v : (s_X8_findError X.2.2.2.2.2.1 X.2.2.2.2.2.2.2.1 X.2.2.2.2.2.2.1 X.2.2.2.2.2.2.2.2).1 = (-10000)
  · have va : a = -10000 := by rw [h3] at v; exact v
    obtain ⟨s2, b1, b2, b3, b4, b5⟩ := h9 va
    by_cases v2 : s_X4_isRunning (X.1 5) = 0
    · have c3 : s_X11_runs g2 M.2.1 = 0 := er.trans v2
      obtain ⟨p, p1, p2, p3, p4⟩ := h.2.1.keep (f := g2) h.1 hs5
      have fr := fr_X11_save_t g2 M.2.2.1 M.2.1 (by rw [hs5]; exact h.n5)
      have hq : s_X11_load M.1 M.2.2.2.2.1 M.2.2.2.2.2 M.2.1 M.2.2.1 = (g2 8, upd (s_X11_save g2 M.2.2.1 M.2.1).1 6 0, t2, vp_updL (kLoop default (b_X11_load_L40 (a, g2, t2) (s_X11_save g2 M.2.2.1 M.2.1)) ((Int32.toInt (g2 8) - Int32.toInt 0).toNat + 1) (0, M.2.1)).2 43 (Int32.toInt64 (g2 8)), (s_X11_save g2 M.2.2.1 M.2.1).2) := by
        unfold s_X11_load
        rw [h4]
        unfold s_X11_load_6 s_X11_load_3 s_X11_load_2
        rw [if_pos (show (a, g2, t2).1 = -10000 from va), if_pos (show s_X11_runs (a, g2, t2).2.1 M.2.1 = 0 from c3)]
      have hw := fun k => ld_words (a := a) (t2 := t2) (u4 := s_X11_save g2 M.2.2.1 M.2.1) (w := M.2.1) b1 b3 k
      generalize (kLoop default (b_X11_load_L40 (a, g2, t2) (s_X11_save g2 M.2.2.1 M.2.1)) ((Int32.toInt (g2 8) - Int32.toInt 0).toNat + 1) (0, M.2.1)).2 = w1 at hq hw
      generalize s_X11_save g2 M.2.2.1 M.2.1 = sf at hq p4 fr
      have hX : n_load_2 X = (va_up (va_up X.1 4 (upd (X.1 4) 1 (F2 1))) 10 SC2, X.2.1, X.2.2.1, X.2.2.2.1, kKf X.2.2.2.2.1, upd hh 1 0, X.2.2.2.2.2.2.1, F2, SC2) := by
        unfold n_load_2 s_X10_load s_X10_load_1 s_X6_copy
        rw [h3]
      have hR : r_load_2 X = F2 1 := by
        unfold r_load_2 s_X10_load s_X10_load_1 s_X6_copy
        rw [h3]
        exact (show upd (X.1 4) 1 (F2 1) 1 = F2 1 from ups)
      have hq2 : q_load M = (upd sf.1 6 0, vp_updL w1 43 (g2 8).toInt64, sf.2, M.2.2.2.1, M.2.2.2.2.1, t2) := by
        unfold q_load
        rw [hq]
      have ha : a_load M = g2 8 := by
        unfold a_load
        rw [hq]
      have hwl := w_load_2 l hl0 D cI cJ cO z b o u X Y fo p p1 p2 p3 h.1.sb v v2
      rw [hX, hR] at hwl
      rw [hq2, ha, b3]
      have hw2 : ∀ k : Nat, vp_updL w1 43 (nI s2).toInt64 k = if k = 43 then (nI s2).toInt64 else if 50 ≤ k ∧ k < 50 + 4 * s2 then (t2 (k - 50)).toInt64 else M.2.1 k := by
        intro k
        by_cases c : k = 43
        · rw [if_pos c, c, upsL]
        · rw [if_neg c, upnL c (hw k)]
      generalize vp_updL w1 43 (nI s2).toInt64 = w2 at hw2
      refine lSt_k (by decide) (by decide) hwl (show upd sf.1 6 0 7 = 0 from upn (by decide) ((fr 7 (by decide)).trans h8)) (congrArg Int32.toInt64 b2) (fun uu => ⟨?_, ?_, 0, by decide, (show upd hh 1 0 1 = nI 0 from ups), (show upd sf.1 6 0 6 = nI 0 from ups), fun i hi => absurd hi (Nat.not_lt_zero _)⟩)
      · show kSt _ _ w2
        have w43 : w2 43 = (nI s2).toInt64 := (hw2 43).trans (if_pos rfl)
        have ti : (nI s2).toInt = (s2 : Int) := nI_toInt (by omega)
        have wlo : ∀ k : Nat, k ≠ 43 → (k < 50 ∨ 98 ≤ k) → w2 k = M.2.1 k := fun k q1 q2 => by rw [hw2, if_neg q1, if_neg (by omega)]
        have cell : ∀ i : Nat, i < 4 * s2 → w2 (50 + i) = (SC2 i).toInt64 := fun i hi => by
          rw [hw2, if_neg (by omega), if_pos (by omega), show 50 + i - 50 = i by omega, b4 i hi]
        have k := hr.segs (w2 := w2) (c := F2 1) (C := SC2) (by rw [w43, b2]; exact ⟨Int32.toInt_toInt64 _, by rw [ti]; omega, by rw [ti]; omega⟩) (fun k hk => by
          rw [b2, ti] at hk
          refine ⟨cell k (by omega), ?_⟩
          obtain ⟨y0, y1, y2, y3, y4⟩ := sgm_yes (b5 (k / 4) (by omega))
          have hk4 : k % 4 = 0 ∨ k % 4 = 1 ∨ k % 4 = 2 ∨ k % 4 = 3 := by omega
          rcases hk4 with q | q | q | q
          · rw [show 4 * (k / 4) = k by omega] at y0
            rw [q]; exact ⟨y0.1, y0.2⟩
          · rw [show 4 * (k / 4) + 1 = k by omega] at y1
            rw [q]; exact ⟨y1.1, y1.2⟩
          · rw [show 4 * (k / 4) + 2 = k by omega] at y2
            rw [q]; exact ⟨y2.1, y2.2⟩
          · rw [show 4 * (k / 4) + 3 = k by omega] at y3
            rw [q]; exact ⟨y3.1, y3.2⟩) wlo
        refine kSt.of hT1 hT2 (hr.e 32 (by decide)).eq k rfl ⟨fun i hi => ?_, fun y => ?_⟩
        · rw [w43, Int32.toInt_toInt64, ti] at hi
          have hi2 : i < s2 := by omega
          obtain ⟨y0, y1, y2, y3, y4⟩ := sgm_yes (b5 i hi2)
          have q2 : w2 (50 + 4 * i + 2) = (SC2 (4 * i + 2)).toInt64 := cell (4 * i + 2) (by omega)
          have q3 : w2 (50 + 4 * i + 3) = (SC2 (4 * i + 3)).toInt64 := cell (4 * i + 3) (by omega)
          rw [q2, q3, Int32.toInt_toInt64, Int32.toInt_toInt64]
          exact y4
        · rw [wlo 33 (by decide) (by decide)] at y
          exact absurd y (hr.norun v2)
      · show kSv (kKf X.2.2.2.2.1) _ (upd sf.1 6 0 5) sf.2
        rw [upn (x := sf.1 5) (by decide) rfl]
        exact p4 uu X rfl rfl
    · have c3 : ¬ s_X11_runs g2 M.2.1 = 0 := by rw [er]; exact v2
      have hq2 : q_load M = (upd g2 7 2, M.2.1, M.2.2.1, M.2.2.2.1, M.2.2.2.2.1, t2) := by
        unfold q_load s_X11_load
        rw [h4]
        unfold s_X11_load_6 s_X11_load_4 s_X11_refuse
        rw [if_pos (show (a, g2, t2).1 = -10000 from va), if_neg (show ¬ s_X11_runs (a, g2, t2).2.1 M.2.1 = 0 from c3)]
      have hX : n_load_1 X = (X.1, X.2.1, X.2.2.1, X.2.2.2.1, X.2.2.2.2.1, hh, X.2.2.2.2.2.2.1, F2, SC2) := by
        unfold n_load_1
        rw [h3]
      have hwl := w_load_1 l hl0 D cI cJ cO z b o u X Y fo v v2
      rw [hX] at hwl
      rw [hq2]
      exact lSt_x (by decide) (by decide) hwl (by decide) (show upd g2 7 2 7 = 2 from ups) (thr 2)
  · have va : ¬ a = -10000 := by rw [h3] at v; exact v
    have hq2 : q_load M = (upd g2 7 1, M.2.1, M.2.2.1, M.2.2.2.1, M.2.2.2.2.1, t2) := by
      unfold q_load s_X11_load
      rw [h4]
      unfold s_X11_load_6 s_X11_load_5 s_X11_refuse
      rw [if_neg (show ¬ (a, g2, t2).1 = -10000 from va)]
    have hX : n_load_0 X = (X.1, X.2.1, X.2.2.1, X.2.2.2.1, X.2.2.2.2.1, hh, X.2.2.2.2.2.2.1, F2, SC2) := by
      unfold n_load_0
      rw [h3]
    have hwl := w_load_0 l hl0 D cI cJ cO z b o u X Y fo v
    rw [hX] at hwl
    rw [hq2]
    exact lSt_x (by decide) (by decide) hwl (by decide) (show upd g2 7 1 7 = 1 from ups) (thr 1)
