/-! the reader: a segment, all segments -/
theorem sg13_no (F : Nat → Int32) (SC : Nat → Int32) (f : Nat → Int32) (codes : Nat → Int32) (h : Nat → Int32) {u : Int32 × (Nat → Int32)} (e : u = (0, h)) : s_X8_readSegment_13 F SC f codes u = (0, h, F, SC) := by subst e; exact if_pos rfl
theorem sg13_go (F : Nat → Int32) (SC : Nat → Int32) (f : Nat → Int32) (codes : Nat → Int32) (h : Nat → Int32) {u : Int32 × (Nat → Int32)} (e : u = (1, h)) : s_X8_readSegment_13 F SC f codes u = s_X8_readSegment_12 F SC f codes (s_X8_readSign h codes 45) := by subst e; exact if_neg (show ¬ (1 : Int32) = 0 by decide)
theorem sg9_no (F : Nat → Int32) (SC : Nat → Int32) (x : Int32) (f : Nat → Int32) (codes : Nat → Int32) (h : Nat → Int32) {u : Int32 × (Nat → Int32)} (e : u = (0, h)) : s_X8_readSegment_9 F SC x f codes u = (0, h, F, SC) := by subst e; exact if_pos rfl
theorem sg9_go (F : Nat → Int32) (SC : Nat → Int32) (x : Int32) (f : Nat → Int32) (codes : Nat → Int32) (h : Nat → Int32) {u : Int32 × (Nat → Int32)} (e : u = (1, h)) : s_X8_readSegment_9 F SC x f codes u = s_X8_readSegment_8 F SC x f codes (s_X8_readNumber h codes) := by subst e; exact if_neg (show ¬ (1 : Int32) = 0 by decide)
theorem sg8_no (F : Nat → Int32) (SC : Nat → Int32) (x : Int32) (f : Nat → Int32) (codes : Nat → Int32) (h : Nat → Int32) {u : Int32 × (Nat → Int32)} (e : u = (0, h)) : s_X8_readSegment_8 F SC x f codes u = (0, h, F, SC) := by subst e; exact if_pos rfl
theorem sg8_go (F : Nat → Int32) (SC : Nat → Int32) (x : Int32) (f : Nat → Int32) (codes : Nat → Int32) (h : Nat → Int32) {u : Int32 × (Nat → Int32)} (e : u = (1, h)) : s_X8_readSegment_8 F SC x f codes u = s_X8_readSegment_7 F SC x (1, h) f codes (s_X8_readSign h codes 114) := by subst e; exact if_neg (show ¬ (1 : Int32) = 0 by decide)
theorem sg7_no (F : Nat → Int32) (SC : Nat → Int32) (x : Int32) (ua : Int32 × (Nat → Int32)) (f : Nat → Int32) (codes : Nat → Int32) (h : Nat → Int32) {u : Int32 × (Nat → Int32)} (e : u = (0, h)) : s_X8_readSegment_7 F SC x ua f codes u = (0, h, F, SC) := by subst e; exact if_pos rfl
theorem sg7_go (F : Nat → Int32) (SC : Nat → Int32) (x : Int32) (ua : Int32 × (Nat → Int32)) (f : Nat → Int32) (codes : Nat → Int32) (h : Nat → Int32) {u : Int32 × (Nat → Int32)} (e : u = (1, h)) : s_X8_readSegment_7 F SC x ua f codes u = s_X8_readSegment_6 F SC x ua f codes (s_X8_readNumber h codes) := by subst e; exact if_neg (show ¬ (1 : Int32) = 0 by decide)
theorem sg6_no (F : Nat → Int32) (SC : Nat → Int32) (x : Int32) (ua : Int32 × (Nat → Int32)) (f : Nat → Int32) (codes : Nat → Int32) (h : Nat → Int32) {u : Int32 × (Nat → Int32)} (e : u = (0, h)) : s_X8_readSegment_6 F SC x ua f codes u = (0, h, F, SC) := by subst e; exact if_pos rfl
theorem sg6_go (F : Nat → Int32) (SC : Nat → Int32) (x : Int32) (ua : Int32 × (Nat → Int32)) (f : Nat → Int32) (codes : Nat → Int32) (h : Nat → Int32) {u : Int32 × (Nat → Int32)} (e : u = (1, h)) : s_X8_readSegment_6 F SC x ua f codes u = s_X8_readSegment_5 F SC x ua (1, h) f codes (s_X8_readSign h codes 115) := by subst e; exact if_neg (show ¬ (1 : Int32) = 0 by decide)
theorem sg5_no (F : Nat → Int32) (SC : Nat → Int32) (x : Int32) (ua : Int32 × (Nat → Int32)) (ub : Int32 × (Nat → Int32)) (f : Nat → Int32) (codes : Nat → Int32) (h : Nat → Int32) {u : Int32 × (Nat → Int32)} (e : u = (0, h)) : s_X8_readSegment_5 F SC x ua ub f codes u = (0, h, F, SC) := by subst e; exact if_pos rfl
theorem sg5_go (F : Nat → Int32) (SC : Nat → Int32) (x : Int32) (ua : Int32 × (Nat → Int32)) (ub : Int32 × (Nat → Int32)) (f : Nat → Int32) (codes : Nat → Int32) (h : Nat → Int32) {u : Int32 × (Nat → Int32)} (e : u = (1, h)) : s_X8_readSegment_5 F SC x ua ub f codes u = s_X8_readSegment_4 F SC x ua ub f codes (s_X8_readNumber h codes) := by subst e; exact if_neg (show ¬ (1 : Int32) = 0 by decide)
theorem sg4_no (F : Nat → Int32) (SC : Nat → Int32) (x : Int32) (ua : Int32 × (Nat → Int32)) (ub : Int32 × (Nat → Int32)) (f : Nat → Int32) (codes : Nat → Int32) (h : Nat → Int32) {u : Int32 × (Nat → Int32)} (e : u = (0, h)) : s_X8_readSegment_4 F SC x ua ub f codes u = (0, h, F, SC) := by subst e; exact if_pos rfl
theorem sg4_go (F : Nat → Int32) (SC : Nat → Int32) (x : Int32) (ua : Int32 × (Nat → Int32)) (ub : Int32 × (Nat → Int32)) (f : Nat → Int32) (codes : Nat → Int32) (h : Nat → Int32) {u : Int32 × (Nat → Int32)} (e : u = (1, h)) : s_X8_readSegment_4 F SC x ua ub f codes u = s_X8_readSegment_3 F SC x ua ub f (s_X8_readSign h codes 59) := by subst e; exact if_neg (show ¬ (1 : Int32) = 0 by decide)
theorem sg3_no (F : Nat → Int32) (SC : Nat → Int32) (x : Int32) (ua : Int32 × (Nat → Int32)) (ub : Int32 × (Nat → Int32)) (f : Nat → Int32) (h : Nat → Int32) {u : Int32 × (Nat → Int32)} (e : u = (0, h)) : s_X8_readSegment_3 F SC x ua ub f u = (0, h, F, SC) := by subst e; exact if_pos rfl
theorem sg3_go (F : Nat → Int32) (SC : Nat → Int32) (x : Int32) (ua : Int32 × (Nat → Int32)) (ub : Int32 × (Nat → Int32)) (f : Nat → Int32) (h : Nat → Int32) {u : Int32 × (Nat → Int32)} (e : u = (1, h)) : s_X8_readSegment_3 F SC x ua ub f u = s_X8_readSegment_2 F SC x ua ub (if h 5 = (-10000) then (if (s_X10_isSegment x (ua.2 4) (ub.2 4) (h 4)) = 0 then (upd h 5 (f 3)) else h) else h) := by subst e; exact if_neg (show ¬ (1 : Int32) = 0 by decide)
theorem sg11_no (F : Nat → Int32) (SC : Nat → Int32) (f : Nat → Int32) (codes : Nat → Int32) (ux : Int32 × (Nat → Int32)) (h : Nat → Int32) {u : Int32 × (Nat → Int32)} (e : u = (0, h)) : s_X8_readSegment_11 F SC f codes ux u = (0, h, F, SC) := by subst e; exact if_pos rfl
theorem sg11_go (F : Nat → Int32) (SC : Nat → Int32) (f : Nat → Int32) (codes : Nat → Int32) (ux : Int32 × (Nat → Int32)) (h : Nat → Int32) {u : Int32 × (Nat → Int32)} (e : u = (1, h)) : s_X8_readSegment_11 F SC f codes ux u = s_X8_readSegment_9 F SC (if ux.1 = 0 then h 4 else -(h 4)) f codes (s_X8_readSign h codes 104) := by subst e; exact if_neg (show ¬ (1 : Int32) = 0 by decide)
theorem ad_eq (F SC : Nat → Int32) {s : Nat} (hs : s < 12) (h : F 1 = nI s) (a b c d : Int32) : s_X6_add F SC a b c d = (upd F 1 (nI (s + 1)), upd (upd (upd (upd SC (4 * s) a) (4 * s + 1) b) (4 * s + 2) c) (4 * s + 3) d) := by
  unfold s_X6_add s_X6_add_4 s_X6_add_3 s_X6_add_2 s_X6_add_1
  have e0 : s_X6_isFull F = 0 := by
    unfold s_X6_isFull
    exact if_pos (show F 1 < 12 by rw [h]; exact nI_lt (by omega) (by decide))
  have l0 : F 1 * 4 + 0 = nI (4 * s) := by rw [h]; exact sg_ix s 0 hs (by decide)
  have l1 : F 1 * 4 + 1 = nI (4 * s + 1) := by rw [h]; exact sg_ix s 1 hs (by decide)
  have l2 : F 1 * 4 + 2 = nI (4 * s + 2) := by rw [h]; exact sg_ix s 2 hs (by decide)
  have l3 : F 1 * 4 + 3 = nI (4 * s + 3) := by rw [h]; exact sg_ix s 3 hs (by decide)
  rw [if_pos e0, put48 _ (n := 4 * s) (by omega) l0, put48 _ (n := 4 * s + 1) (by omega) l1, put48 _ (n := 4 * s + 2) (by omega) l2, put48 _ (n := 4 * s + 3) (by omega) l3, h, nI_succ]
theorem lo1 : s_X11_letterOf (nI 1) = 104 := by decide
theorem lo2 : s_X11_letterOf (nI 2) = 114 := by decide
theorem lo3 : s_X11_letterOf (nI 3) = 115 := by decide
/-- the 't' -/
theorem t_step {text codes : Nat → Int32} {n s k : Nat} {f g t : Nat → Int32} (hn : n ≤ 90) (hc : ∀ i : Nat, i < n → text i = codes i) (hs : s < 12) (hk : k < n ∨ (k = n ∧ n = 0)) (f1 : f 1 = nI n) (f3 : f 3 = nI k) (g6 : g 6 = nI n) (g8 : g 8 = nI s) (g9 : g 9 = 0) (g12 : g 12 = f 5) : (s_X8_readSign f codes 116 = (0, f) ∧ (eR text k g t).1 = nI k) ∨ (∃ (f2 g2 : Nat → Int32), s_X8_readSign f codes 116 = (1, f2) ∧ sgI n s 1 (k + 1) k f2 g2 ∧ f2 5 = f 5 ∧ g2 11 = 0 ∧ eR text k g t = eR text (k + 1) g2 t) := by
  by_cases A : k < n
  · by_cases B : text k = 116
    · right
      refine ⟨_, _, rs_yes hn f1 f3 A ((hc k A).symm.trans B), ⟨upn (by decide) f1, ups, A, ?_, ?_, ?_, ?_, ?_, ?_⟩, upn (by decide) rfl, ups, eR_go hn A g6 (t_go (by omega) g9 B ?_)⟩
      · exact upn (by decide) (upn (by decide) (upn (by decide) (upn (by decide) g6)))
      · exact upn (by decide) (upn (by decide) (upn (by decide) (upn (by decide) g8)))
      · exact upn (by decide) (upn (by decide) ups)
      · exact upn (by decide) ups
      · exact upn (by decide) (upn (by decide) (upn (by decide) ups))
      · exact upn (by decide) (upn (by decide) (upn (by decide) (upn (by decide) (g12.trans (upn (f := f) (k := 3) (by decide) rfl).symm))))
      · rw [g8]; exact nI_ne (b := 12) (by omega) (by decide) (by omega)
    · left
      exact ⟨rs_no hn f1 f3 A (fun z => B ((hc k A).trans z)), eR_fail hn A g6 (t_fail (by omega) g9 (Or.inl B))⟩
  · left
    obtain ⟨k1, k2⟩ := hk.resolve_left A
    subst k2
    subst k1
    refine ⟨rs_end f1 f3 (Nat.le_refl _) (by decide), ?_⟩
    rw [eR_end hn g6]
    show (if nI 0 = 0 then nI 0 else if g 9 ≤ 0 then g 12 else nI 0) = nI 0
    exact if_pos (show nI 0 = 0 from rfl)
/-- the '-' -/
theorem mi_step {text codes : Nat → Int32} {n s k k0 : Nat} {f g t : Nat → Int32} (hn : n ≤ 90) (hc : ∀ i : Nat, i < n → text i = codes i) (hI : sgI n s 1 k k0 f g) (g11 : g 11 = 0) : ∃ (v : Int32) (f2 g2 : Nat → Int32) (k2 : Nat), s_X8_readSign f codes 45 = (v, f2) ∧ sgI n s 1 k2 k0 f2 g2 ∧ f2 5 = f 5 ∧ g2 11 = v ∧ eR text k g t = eR text k2 g2 t ∧ (g2 11 = 0 → k2 < n → ¬ text k2 = 45) := by
  obtain ⟨f1, f3, hk, g6, g8, g9, g10, g13, g12⟩ := id hI
  by_cases A : k < n
  · by_cases B : text k = 45
    · refine ⟨1, _, upd g 11 1, k + 1, rs_yes hn f1 f3 A ((hc k A).symm.trans B), ⟨upn (by decide) f1, ups, A, upn (by decide) g6, upn (by decide) g8, upn (by decide) g9, upn (by decide) g10, upn (by decide) g13, upn (by decide) (g12.trans (upn (f := f) (k := 3) (by decide) rfl).symm)⟩, upn (by decide) rfl, ups, eR_go hn A g6 (mi_go (by omega) g9 g10 g11 B), fun z => ?_⟩
      rw [ups] at z
      exact absurd z (by decide)
    · exact ⟨0, f, g, k, rs_no hn f1 f3 A (fun z => B ((hc k A).trans z)), hI, rfl, g11, rfl, fun _ _ => B⟩
  · exact ⟨0, f, g, k, rs_end f1 f3 (by omega) (by omega), hI, rfl, g11, rfl, fun _ z => absurd z A⟩
/-- a segment -/
theorem sg_step {text codes F SC : Nat → Int32} {n s k : Nat} {f g t : Nat → Int32} (hn : n ≤ 90) (hc : ∀ i : Nat, i < n → text i = codes i) (hs : s < 12) (hk : k < n ∨ (k = n ∧ n = 0)) (f1 : f 1 = nI n) (f3 : f 3 = nI k) (g6 : g 6 = nI n) (g8 : g 8 = nI s) (g9 : g 9 = 0) (g12 : g 12 = f 5) (hF : F 1 = nI s) (hC : ∀ i : Nat, i < 4 * s → t i = SC i) : (∃ (h : Nat → Int32) (k2 : Nat), s_X8_readSegment f codes F SC = (0, h, F, SC) ∧ h 1 = nI n ∧ h 3 = nI k2 ∧ k2 ≤ n ∧ (eR text k g t).1 = nI k2) ∨ (∃ (h g2 t2 SC2 : Nat → Int32) (k2 : Nat), s_X8_readSegment f codes F SC = (1, h, upd F 1 (nI (s + 1)), SC2) ∧ h 1 = nI n ∧ h 3 = nI k2 ∧ k2 ≤ n ∧ k < n ∧ eR text k g t = eR text k2 g2 t2 ∧ g2 6 = nI n ∧ g2 8 = nI (s + 1) ∧ g2 9 = 0 ∧ g2 12 = h 5 ∧ (∀ i : Nat, i < 4 * (s + 1) → t2 i = SC2 i) ∧ (h 5 = -10000 → f 5 = -10000 ∧ ¬ s_X10_isSegment (SC2 (4 * s)) (SC2 (4 * s + 1)) (SC2 (4 * s + 2)) (SC2 (4 * s + 3)) = 0) ∧ (∀ i : Nat, i < 4 * s → SC2 i = SC i)) := by
  have run0 : s_X8_readSegment f codes F SC = s_X8_readSegment_13 F SC f codes (s_X8_readSign f codes 116) := rfl
  rcases t_step (t := t) hn hc hs hk f1 f3 g6 g8 g9 g12 with ⟨a1, a2⟩ | ⟨fa, ga, a1, Ia, a5, a11, ra⟩
  · exact Or.inl ⟨f, k, run0.trans (sg13_no F SC f codes f a1), f1, f3, by omega, a2⟩
  have run1 := run0.trans (sg13_go F SC f codes fa a1)
  obtain ⟨v, fb, gb, kb, b1, Ib, b5, b11, rb, bn⟩ := mi_step (t := t) hn hc Ia a11
  have run2 : s_X8_readSegment f codes F SC = s_X8_readSegment_11 F SC f codes (v, fb) (s_X8_readNumber fb codes) := by rw [run1, b1]; rfl
  rcases nl_step (t := t) hn hc (by decide) hs Ib (fun _ => bn) with ⟨h, k2, c1, c2, c3, c4⟩ | ⟨h1, fc, gc, tc, kc, c1, c2, Ic, c5, rc, c11, ct, ce⟩
  · refine Or.inl ⟨h, k2, ?_, c2, c3, by rw [ra, rb]; exact c4⟩
    rcases c1 with c1 | ⟨hx, c1, c1b⟩
    · exact run2.trans (sg11_no F SC f codes _ h c1)
    · rw [lo1] at c1b
      exact (run2.trans (sg11_go F SC f codes _ hx c1)).trans (sg9_no F SC _ f codes h c1b)
  rw [lo1] at c2
  have run3 := (run2.trans (sg11_go F SC f codes _ h1 c1)).trans (sg9_go F SC _ f codes fc c2)
  rcases nl_step (t := tc) hn hc (by decide) hs Ic (fun z => absurd z (by decide)) with ⟨h, k2, d1, d2, d3, d4⟩ | ⟨h2, fd, gd, td, kd, d1, d2, Id, d5, rd, d11, dt, de⟩
  · refine Or.inl ⟨h, k2, ?_, d2, d3, by rw [ra, rb, rc]; exact d4⟩
    rcases d1 with d1 | ⟨hx, d1, d1b⟩
    · exact run3.trans (sg8_no F SC _ f codes h d1)
    · rw [lo2] at d1b
      exact (run3.trans (sg8_go F SC _ f codes hx d1)).trans (sg7_no F SC _ _ f codes h d1b)
  rw [lo2] at d2
  have run4 := (run3.trans (sg8_go F SC _ f codes h2 d1)).trans (sg7_go F SC _ _ f codes fd d2)
  rcases nl_step (t := td) hn hc (by decide) hs Id (fun z => absurd z (by decide)) with ⟨h, k2, e1, e2, e3, e4⟩ | ⟨h3, fe, ge, te, ke, e1, e2, Ie, e5, re, e11, et, ee⟩
  · refine Or.inl ⟨h, k2, ?_, e2, e3, by rw [ra, rb, rc, rd]; exact e4⟩
    rcases e1 with e1 | ⟨hx, e1, e1b⟩
    · exact run4.trans (sg6_no F SC _ _ f codes h e1)
    · rw [lo3] at e1b
      exact (run4.trans (sg6_go F SC _ _ f codes hx e1)).trans (sg5_no F SC _ _ _ f codes h e1b)
  rw [lo3] at e2
  have run5 := (run4.trans (sg6_go F SC _ _ f codes h3 e1)).trans (sg5_go F SC _ _ _ f codes fe e2)
  rcases ns_step (t := te) hn hc hs Ie e11 with ⟨h, k2, o1, o2, o3, o4⟩ | ⟨h4, fo, go, to, ko, o1, o2, p1, p3, pk, p4, p5, ro, q6, q8, q9, q12, ot, oe⟩
  · refine Or.inl ⟨h, k2, ?_, o2, o3, by rw [ra, rb, rc, rd, re]; exact o4⟩
    rcases o1 with o1 | ⟨hx, o1, o1b⟩
    · exact run5.trans (sg4_no F SC _ _ _ f codes h o1)
    · exact (run5.trans (sg4_go F SC _ _ _ f codes hx o1)).trans (sg3_no F SC _ _ _ f h o1b)
  have run6 := (run5.trans (sg4_go F SC _ _ _ f codes h4 o1)).trans (sg3_go F SC _ _ _ f fo o2)
  have y5 : fe 5 = f 5 := e5.trans (d5.trans (c5.trans (b5.trans a5)))
  have x7 : (if v = 0 then h1 4 else -(h1 4)) = to (4 * s) := by
    rw [oe _ (by omega), ee _ (by omega), de _ (by omega)]
    have := ct
    rw [b11] at this
    exact this.symm
  have x1 : h2 4 = to (4 * s + 1) := by
    rw [oe _ (by omega), ee _ (by omega)]
    have := dt
    rw [if_pos c11] at this
    exact this.symm
  have x2 : h3 4 = to (4 * s + 2) := by
    rw [oe _ (by omega)]
    have := et
    rw [if_pos d11] at this
    exact this.symm
  have x3 : fo 4 = to (4 * s + 3) := p4.trans ot.symm
  have run7 : s_X8_readSegment f codes F SC = s_X8_readSegment_2 F SC (to (4 * s)) (1, h2) (1, h3) (if fo 5 = (-10000) then (if (s_X10_isSegment (to (4 * s)) (to (4 * s + 1)) (to (4 * s + 2)) (to (4 * s + 3))) = 0 then (upd fo 5 (f 3)) else fo) else fo) := by
    refine run6.trans ?_
    show s_X8_readSegment_2 F SC (if v = 0 then h1 4 else -(h1 4)) (1, h2) (1, h3) (if fo 5 = (-10000) then (if (s_X10_isSegment (if v = 0 then h1 4 else -(h1 4)) (h2 4) (h3 4) (fo 4)) = 0 then (upd fo 5 (f 3)) else fo) else fo) = _
    rw [x7, x1, x2, x3]
  have w1 : ∀ i : Nat, i = 1 ∨ i = 3 ∨ i = 4 → (if fo 5 = (-10000) then (if (s_X10_isSegment (to (4 * s)) (to (4 * s + 1)) (to (4 * s + 2)) (to (4 * s + 3))) = 0 then (upd fo 5 (f 3)) else fo) else fo) i = fo i := by
    intro i hi
    split
    · split
      · exact upn (by omega) rfl
      · rfl
    · rfl
  have w5 : (if fo 5 = (-10000) then (if (s_X10_isSegment (to (4 * s)) (to (4 * s + 1)) (to (4 * s + 2)) (to (4 * s + 3))) = 0 then (upd fo 5 (f 3)) else fo) else fo) 5 = go 12 := by
    rw [q12, p5]
    by_cases c : fe 5 = -10000
    · rw [if_pos c, if_pos c]
      by_cases c2 : s_X10_isSegment (to (4 * s)) (to (4 * s + 1)) (to (4 * s + 2)) (to (4 * s + 3)) = 0
      · rw [if_pos c2, if_pos c2, ups, f3]
      · rw [if_neg c2, if_neg c2, p5]
    · rw [if_neg c, if_neg c, p5]
  have hb : go 12 = -10000 → f 5 = -10000 ∧ ¬ s_X10_isSegment (to (4 * s)) (to (4 * s + 1)) (to (4 * s + 2)) (to (4 * s + 3)) = 0 := by
    intro z
    rw [q12] at z
    by_cases c : fe 5 = -10000
    · rw [if_pos c] at z
      by_cases c2 : s_X10_isSegment (to (4 * s)) (to (4 * s + 1)) (to (4 * s + 2)) (to (4 * s + 3)) = 0
      · rw [if_pos c2] at z
        have : k < 90 ∨ k = 0 := by omega
        exact absurd (show nI k < 0 by rw [z]; decide) (nI_pos (by omega))
      · exact ⟨y5.symm.trans c, c2⟩
    · rw [if_neg c] at z
      exact absurd z c
  generalize (if fo 5 = (-10000) then (if (s_X10_isSegment (to (4 * s)) (to (4 * s + 1)) (to (4 * s + 2)) (to (4 * s + 3))) = 0 then (upd fo 5 (f 3)) else fo) else fo) = H at run7 w1 w5
  have run8 : s_X8_readSegment f codes F SC = (1, H, upd F 1 (nI (s + 1)), upd (upd (upd (upd SC (4 * s) (to (4 * s))) (4 * s + 1) (to (4 * s + 1))) (4 * s + 2) (to (4 * s + 2))) (4 * s + 3) (to (4 * s + 3))) := by
    refine run7.trans ?_
    show s_X8_readSegment_1 H (s_X6_add F SC (to (4 * s)) (h2 4) (h3 4) (H 4)) = _
    rw [w1 4 (by omega), x1, x2, x3, ad_eq F SC hs hF]
    rfl
  have hCk : ∀ i : Nat, upd (upd (upd (upd SC (4 * s) (to (4 * s))) (4 * s + 1) (to (4 * s + 1))) (4 * s + 2) (to (4 * s + 2))) (4 * s + 3) (to (4 * s + 3)) i = if i = 4 * s + 3 then to (4 * s + 3) else if i = 4 * s + 2 then to (4 * s + 2) else if i = 4 * s + 1 then to (4 * s + 1) else if i = 4 * s then to (4 * s) else SC i := fun i => rfl
  have hto : ∀ i : Nat, i < 4 * s → to i = SC i := fun i hi => (oe i (by omega)).trans ((ee i (by omega)).trans ((de i (by omega)).trans ((ce i (by omega)).trans (hC i hi))))
  have hall : ∀ i : Nat, i < 4 * (s + 1) → to i = upd (upd (upd (upd SC (4 * s) (to (4 * s))) (4 * s + 1) (to (4 * s + 1))) (4 * s + 2) (to (4 * s + 2))) (4 * s + 3) (to (4 * s + 3)) i := by
    intro i hi
    rw [hCk]
    by_cases i3 : i = 4 * s + 3
    · rw [if_pos i3, i3]
    · rw [if_neg i3]
      by_cases i2 : i = 4 * s + 2
      · rw [if_pos i2, i2]
      · rw [if_neg i2]
        by_cases i1 : i = 4 * s + 1
        · rw [if_pos i1, i1]
        · rw [if_neg i1]
          by_cases i0 : i = 4 * s
          · rw [if_pos i0, i0]
          · rw [if_neg i0]
            exact hto i (by omega)
  refine Or.inr ⟨H, go, to, _, ko, run8, (w1 1 (by omega)).trans p1, (w1 3 (by omega)).trans p3, pk, Ia.2.2.1, by rw [ra, rb, rc, rd, re, ro], q6, q8, q9, w5.symm, hall, fun z => ?_, fun i hi => ?_⟩
  · obtain ⟨z1, z2⟩ := hb (w5.symm.trans z)
    refine ⟨z1, ?_⟩
    rw [← hall (4 * s) (by omega), ← hall (4 * s + 1) (by omega), ← hall (4 * s + 2) (by omega), ← hall (4 * s + 3) (by omega)]
    exact z2
  · rw [← hall i (by omega)]
    exact hto i hi
/-- all segments -/
theorem fe_loop {text codes : Nat → Int32} {n : Nat} (hn : n ≤ 90) (hc : ∀ i : Nat, i < n → text i = codes i) : ∀ (r s k : Nat) (f F SC g t : Nat → Int32), s + r = 12 → (k < n ∨ (k = n ∧ n = 0)) → f 1 = nI n → f 3 = nI k → g 6 = nI n → g 8 = nI s → g 9 = 0 → g 12 = f 5 → F 1 = nI s → (∀ i : Nat, i < 4 * s → t i = SC i) → (f 5 = -10000 → ∀ i : Nat, i < s → ¬ s_X10_isSegment (SC (4 * i)) (SC (4 * i + 1)) (SC (4 * i + 2)) (SC (4 * i + 3)) = 0) → ∃ (a : Int32) (h F2 SC2 : Nat → Int32), kLoop default (b_X8_findError_L22 codes) (r + 1) (nI s, f, F, SC) = (a, h, F2, SC2) ∧ h 1 = nI n ∧ (eR text k g t).1 = a ∧ (a = -10000 → ∃ s2 : Nat, s2 ≤ 12 ∧ F2 1 = nI s2 ∧ (eR text k g t).2.1 8 = nI s2 ∧ (∀ i : Nat, i < 4 * s2 → (eR text k g t).2.2 i = SC2 i) ∧ ∀ i : Nat, i < s2 → ¬ s_X10_isSegment (SC2 (4 * i)) (SC2 (4 * i + 1)) (SC2 (4 * i + 2)) (SC2 (4 * i + 3)) = 0) := by
  have neg : ∀ k : Nat, k ≤ 90 → nI k = -10000 → False := fun k hk z => absurd (show nI k < 0 by rw [z]; decide) (nI_pos (by omega))
  intro r
  induction r with
  | zero =>
    intro s k f F SC g t hs hk f1 f3 g6 g8 g9 g12 hF hC hS
    have s12 : s = 12 := by omega
    subst s12
    refine ⟨f 3, f, F, SC, ?_, f1, ?_, fun z => (neg k (by omega) (f3.symm.trans z)).elim⟩
    · refine kLoop_out ?_
      unfold b_X8_findError_L22
      exact if_pos (show (12 : Int32) ≤ nI 12 by decide)
    · rw [f3]
      rcases hk with hk | ⟨k1, k2⟩
      · exact eR_fail hn hk g6 (t_fail (by omega) g9 (Or.inr g8))
      · subst k2
        subst k1
        rw [eR_end hn g6]
        show (if nI 0 = 0 then nI 0 else if g 9 ≤ 0 then g 12 else nI 0) = nI 0
        exact if_pos (show nI 0 = 0 from rfl)
  | succ r ih =>
    intro s k f F SC g t hs hk f1 f3 g6 g8 g9 g12 hF hC hS
    have c12 : ¬ 12 ≤ nI s := nI_ge (a := s) (b := 12) (by omega) (by decide)
    have eb : b_X8_findError_L22 codes (nI s, f, F, SC) = b_X8_findError_t_1 (nI s, f, F, SC) (s_X8_readSegment f codes F SC) := by
      unfold b_X8_findError_L22
      exact if_neg c12
    rcases sg_step (t := t) hn hc (by omega) hk f1 f3 g6 g8 g9 g12 hF hC with ⟨h, k2, a1, a2, a3, a4, a5⟩ | ⟨h, g2, t2, SC2, k2, a1, a2, a3, a4, a5, a6, b6, b8, b9, b12, bC, bS, bK⟩
    · refine ⟨h 3, h, F, SC, ?_, a2, a5.trans a3.symm, fun z => (neg k2 (by omega) (a3.symm.trans z)).elim⟩
      refine kLoop_out (eb.trans ?_)
      rw [a1]
      exact if_pos (show (0 : Int32) = 0 from rfl)
    · rw [a1] at eb
      have eb2 : b_X8_findError_t_1 (nI s, f, F, SC) (1, h, upd F 1 (nI (s + 1)), SC2) = if h 3 < h 1 then (Sum.inl (nI s + 1, h, upd F 1 (nI (s + 1)), SC2)) else (Sum.inr (h 5, h, upd F 1 (nI (s + 1)), SC2)) := if_neg (show ¬ (1 : Int32) = 0 by decide)
      have hS2 : h 5 = -10000 → ∀ i : Nat, i < s + 1 → ¬ s_X10_isSegment (SC2 (4 * i)) (SC2 (4 * i + 1)) (SC2 (4 * i + 2)) (SC2 (4 * i + 3)) = 0 := by
        intro z i hi
        obtain ⟨z1, z2⟩ := bS z
        by_cases c : i = s
        · rw [c]; exact z2
        · rw [bK (4 * i) (by omega), bK (4 * i + 1) (by omega), bK (4 * i + 2) (by omega), bK (4 * i + 3) (by omega)]
          exact hS z1 i (by omega)
      by_cases ck : k2 < n
      · have cl : h 3 < h 1 := by rw [a2, a3]; exact nI_lt ck (by omega)
        rw [if_pos cl, ← nI_succ] at eb2
        obtain ⟨a, h2, F2, SC3, r1, r2, r3, r4⟩ := ih (s + 1) k2 h (upd F 1 (nI (s + 1))) SC2 g2 t2 (by omega) (Or.inl ck) a2 a3 b6 b8 b9 b12 ups bC hS2
        refine ⟨a, h2, F2, SC3, (kLoop_in (eb.trans eb2)).trans r1, r2, by rw [a6]; exact r3, by rw [a6]; exact r4⟩
      · have kn : k2 = n := by omega
        have cl : ¬ h 3 < h 1 := by rw [a2, a3, kn]; exact nI_nlt (Nat.le_refl _) (by omega)
        rw [if_neg cl] at eb2
        have er : eR text k g t = (h 5, g2, t2) := by
          rw [a6, kn, eR_end hn b6, if_neg (show ¬ nI n = 0 from nI_ne (b := 0) (by omega) (by decide) (by omega)), if_pos (show g2 9 ≤ 0 by rw [b9]; decide), b12]
        refine ⟨h 5, h, _, _, kLoop_out (eb.trans eb2), a2, by rw [er], fun z => ⟨s + 1, by omega, ups, ?_, ?_, hS2 z⟩⟩
        · rw [er]; exact b8
        · rw [er]; exact bC
/-- the two readers -/
theorem fe_eq {text codes f F SC g t : Nat → Int32} {n : Nat} (hn : n ≤ 90) (hc : ∀ i : Nat, i < n → text i = codes i) (f1 : f 1 = nI n) (g6 : g 6 = nI n) : ∃ (a : Int32) (h F2 SC2 : Nat → Int32), s_X8_findError f F codes SC = (a, h, F2, SC2) ∧ h 1 = nI n ∧ (s_X11_error g text t).1 = a ∧ (a = -10000 → ∃ s2 : Nat, s2 ≤ 12 ∧ F2 1 = nI s2 ∧ (s_X11_error g text t).2.1 8 = nI s2 ∧ (∀ i : Nat, i < 4 * s2 → (s_X11_error g text t).2.2 i = SC2 i) ∧ ∀ i : Nat, i < s2 → ¬ s_X10_isSegment (SC2 (4 * i)) (SC2 (4 * i + 1)) (SC2 (4 * i + 2)) (SC2 (4 * i + 3)) = 0) := by
  have e1 : s_X8_findError f F codes SC = kLoop default (b_X8_findError_L22 codes) (12 + 1) (nI 0, upd (upd f 3 0) 5 (-10000), upd F 1 0, SC) := by
    unfold s_X8_findError
    rw [show (Int32.toInt 12 - Int32.toInt 0).toNat + 1 = 12 + 1 by decide]
    rfl
  have e2 : s_X11_error g text t = eR text 0 (upd (upd (upd g 8 0) 9 0) 12 (-10000)) t := by
    unfold s_X11_error eR
    rw [show ((90 : Int) - Int32.toInt 0).toNat + 1 = 91 - 0 by decide]
    rfl
  rw [e1, e2]
  exact fe_loop hn hc 12 0 0 _ _ _ _ _ (by decide) (by omega) (upn (by decide) (upn (by decide) f1)) (upn (by decide) ups) (upn (by decide) (upn (by decide) (upn (by decide) g6))) (upn (by decide) (upn (by decide) ups)) (upn (by decide) ups) (ups.trans ups.symm) ups (fun i hi => absurd hi (by omega)) (fun _ i hi => absurd hi (by omega))
