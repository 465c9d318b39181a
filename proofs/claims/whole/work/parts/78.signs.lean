/-! the reader: signs, segments -/
theorem m9_four {g : Nat → Int32} {m : Nat} (hm : m ≤ 3) (h9 : g 9 = nI m) : ¬ g 9 = 4 := by
  rw [h9]; exact fun z => absurd (nI_inj (b := 4) (by omega) (by decide) z) (by omega)
theorem nI_ne {a b : Nat} (ha : a < 2 ^ 31) (hb : b < 2 ^ 31) (h : a ≠ b) : ¬ nI a = nI b := fun z => h (nI_inj ha hb z)
theorem d10_non {g : Nat → Int32} {d : Nat} (hd : 1 ≤ d ∧ d ≤ 4) (h10 : g 10 = nI d) : ¬ g 10 = 0 := by
  rw [h10]; exact nI_ne (b := 0) (by omega) (by decide) (by omega)
theorem tk_five {g text t : Nat → Int32} {k m : Nat} (hk : k < 2 ^ 31) (hm : 1 ≤ m ∧ m ≤ 4) (h9 : g 9 = nI m) (hd : ¬ s_X10_isWithin (text k) 48 57 = 0) (h10 : g 10 = nI 4) : (s_X11_takes g text t (nI k)).1 = 0 := by
  rw [tk_dig hk hm h9 hd]
  unfold s_X11_takes_24
  rw [if_pos (show 5 ≤ g 10 + 1 by rw [h10]; decide)]
theorem tk_minus {g text t : Nat → Int32} {k m d : Nat} (hk : k < 2 ^ 31) (hm : 1 ≤ m ∧ m ≤ 4) (h9 : g 9 = nI m) (hd : 1 ≤ d ∧ d ≤ 4) (h10 : g 10 = nI d) (h : text k = 45) : (s_X11_takes g text t (nI k)).1 = 0 := by
  rw [tk_non hk hm h9 (by rw [h]; decide)]
  unfold tkA s_X11_takes_10
  rw [nI_clamp hk, if_pos h]
  show (if g 9 = 1 then (if g 10 = 0 then (if g 11 = 0 then (1 : Int32) else 0) else 0) else 0) = 0
  rw [if_neg (d10_non hd h10)]
  by_cases c : g 9 = 1
  · rw [if_pos c]
  · rw [if_neg c]
theorem lo_not {m : Nat} (hm : 1 ≤ m ∧ m ≤ 3) : s_X10_isWithin (s_X11_letterOf (nI m)) 48 57 = 0 ∧ ¬ s_X11_letterOf (nI m) = 45 := by
  have q : m = 1 ∨ m = 2 ∨ m = 3 := by omega
  rcases q with q | q | q <;> subst q <;> decide
theorem sg_letter {text codes : Nat → Int32} {n s m k d : Nat} {f g t : Nat → Int32} (hn : n ≤ 90) (hc : ∀ i : Nat, i < n → text i = codes i) (hm : 1 ≤ m ∧ m ≤ 3) (hs : s < 12) (hk : k ≤ n) (f1 : f 1 = nI n) (f3 : f 3 = nI k) (g6 : g 6 = nI n) (g8 : g 8 = nI s) (g9 : g 9 = nI m) (g10 : g 10 = nI d) (hd : 1 ≤ d ∧ d ≤ 4) (h4 : k < n → ¬ s_X10_isWithin (text k) 48 57 = 0 → d = 4) : (s_X8_readSign f codes (s_X11_letterOf (nI m)) = (0, f) ∧ (eR text k g t).1 = nI k) ∨ (k < n ∧ s_X8_readSign f codes (s_X11_letterOf (nI m)) = (1, upd f 3 (nI (k + 1))) ∧ eR text k g t = eR text (k + 1) (upd (upd (upd (upd g 13 (g 13)) 9 (nI (m + 1))) 10 0) 11 0) (s_X11_endNumber g t)) := by
  have hm4 : 1 ≤ m ∧ m ≤ 4 := ⟨hm.1, by omega⟩
  obtain ⟨x1, x2⟩ := lo_not hm
  by_cases ck : k = n
  · left
    refine ⟨rs_end f1 f3 (by omega) (by omega), ?_⟩
    rw [ck]
    exact eR_end1 hn g6 hm4 g9
  · have hlt : k < n := by omega
    by_cases cd : s_X10_isWithin (text k) 48 57 = 0
    · by_cases cx : text k = s_X11_letterOf (nI m)
      · right
        refine ⟨hlt, rs_yes hn f1 f3 hlt ((hc k hlt).symm.trans cx), eR_go hn hlt g6 ?_⟩
        rw [tk_non (by omega) hm4 g9 cd]
        unfold tkA s_X11_takes_13 s_X11_takes_12
        rw [nI_clamp (by omega), if_neg (show ¬ text k = 45 from fun z => x2 (cx.symm.trans z)), if_neg (m9_pos hm4 g9), if_neg (d10_non hd g10), if_neg (m9_four hm.2 g9), g9, if_pos cx, g8, if_neg (show ¬ nI s = 12 from nI_ne (b := 12) (by omega) (by decide) (by omega)), if_neg (show ¬ nI m = 0 from nI_ne (b := 0) (by omega) (by decide) (by omega)), nI_succ]
      · left
        refine ⟨rs_no hn f1 f3 hlt (fun z => cx ((hc k hlt).trans z)), eR_fail hn hlt g6 ?_⟩
        by_cases c45 : text k = 45
        · exact tk_minus (by omega) hm4 g9 hd g10 c45
        · rw [tk_non (by omega) hm4 g9 cd]
          unfold tkA s_X11_takes_13
          rw [nI_clamp (by omega), if_neg c45, if_neg (m9_pos hm4 g9), if_neg (d10_non hd g10), if_neg (m9_four hm.2 g9), g9, if_neg cx]
    · left
      refine ⟨rs_no hn f1 f3 hlt (fun z => cd (by rw [hc k hlt, z]; exact x1)), eR_fail hn hlt g6 (tk_five (by omega) hm4 g9 cd (by rw [g10, h4 hlt cd]))⟩
theorem sg_semi {text codes : Nat → Int32} {n s k d : Nat} {f g t : Nat → Int32} (hn : n ≤ 90) (hc : ∀ i : Nat, i < n → text i = codes i) (hs : s < 12) (hk : k ≤ n) (f1 : f 1 = nI n) (f3 : f 3 = nI k) (g6 : g 6 = nI n) (g8 : g 8 = nI s) (g9 : g 9 = nI 4) (g10 : g 10 = nI d) (hd : 1 ≤ d ∧ d ≤ 4) (h4 : k < n → ¬ s_X10_isWithin (text k) 48 57 = 0 → d = 4) : (s_X8_readSign f codes 59 = (0, f) ∧ (eR text k g t).1 = nI k) ∨ (k < n ∧ s_X8_readSign f codes 59 = (1, upd f 3 (nI (k + 1))) ∧ eR text k g t = eR text (k + 1) (s_X11_endSegment g t).1 (s_X11_endSegment g t).2) := by
  have hm4 : 1 ≤ 4 ∧ 4 ≤ 4 := by decide
  by_cases ck : k = n
  · left
    refine ⟨rs_end f1 f3 (by omega) (by omega), ?_⟩
    rw [ck]
    exact eR_end1 hn g6 hm4 g9
  · have hlt : k < n := by omega
    by_cases cd : s_X10_isWithin (text k) 48 57 = 0
    · by_cases cx : text k = 59
      · right
        refine ⟨hlt, rs_yes hn f1 f3 hlt ((hc k hlt).symm.trans cx), eR_go hn hlt g6 ?_⟩
        rw [tk_non (by omega) hm4 g9 cd]
        unfold tkA s_X11_takes_11
        rw [nI_clamp (by omega), if_neg (show ¬ text k = 45 by rw [cx]; decide), if_neg (m9_pos hm4 g9), if_neg (d10_non hd g10), if_pos (show g 9 = 4 from g9), if_pos cx]
      · left
        refine ⟨rs_no hn f1 f3 hlt (fun z => cx ((hc k hlt).trans z)), eR_fail hn hlt g6 ?_⟩
        by_cases c45 : text k = 45
        · exact tk_minus (by omega) hm4 g9 hd g10 c45
        · rw [tk_non (by omega) hm4 g9 cd]
          unfold tkA s_X11_takes_11
          rw [nI_clamp (by omega), if_neg c45, if_neg (m9_pos hm4 g9), if_neg (d10_non hd g10), if_pos (show g 9 = 4 from g9), if_neg cx]
    · left
      refine ⟨rs_no hn f1 f3 hlt (fun z => cd (by rw [hc k hlt, z]; decide)), eR_fail hn hlt g6 (tk_five (by omega) hm4 g9 cd (by rw [g10, h4 hlt cd]))⟩
theorem en_eq {g t : Nat → Int32} {s m : Nat} (hs : s < 12) (hm : 1 ≤ m ∧ m ≤ 4) (g8 : g 8 = nI s) (g9 : g 9 = nI m) : s_X11_endNumber g t = upd t (4 * s + m - 1) (if g 11 = 0 then t (4 * s + m - 1) else -(t (4 * s + m - 1))) := by
  unfold s_X11_endNumber s_X11_endNumber_2 j_X11_endNumber_1
  rw [g8, g9, sl_ix hs hm]
theorem es_eq {g t : Nat → Int32} {s : Nat} (hs : s < 12) (g8 : g 8 = nI s) (g9 : g 9 = nI 4) (g11 : g 11 = 0) : s_X11_endSegment g t = (upd (upd (if g 12 = -10000 then (if s_X10_isSegment (t (4 * s)) (t (4 * s + 1)) (t (4 * s + 2)) (t (4 * s + 3)) = 0 then upd g 12 (g 13) else g) else g) 8 (nI (s + 1))) 9 0, t) := by
  have e : s_X11_endNumber g t = t := by rw [en_eq hs (by decide) g8 g9, if_pos g11]; exact upd_self
  unfold s_X11_endSegment
  rw [e]
  unfold s_X11_endSegment_4 s_X11_endSegment_3 j_X11_endSegment_2 j_X11_endSegment_1
  have e1 : 4 * nI s = nI (4 * s) := nI_mul (a := 4) (by omega) (by omega) (by decide)
  have e2 : nI (4 * s) + 1 = nI (4 * s + 1) := nI_plus (b := 1) (by omega)
  have e3 : nI (4 * s) + 2 = nI (4 * s + 2) := nI_plus (b := 2) (by omega)
  have e4 : nI (4 * s) + 3 = nI (4 * s + 3) := nI_plus (b := 3) (by omega)
  rw [g8, e1, e2, e3, e4, nI_clamp (by omega), nI_clamp (by omega), nI_clamp (by omega), nI_clamp (by omega), sgm_eq]
  have key : ∀ G : Nat → Int32, G 8 = nI s → ((upd (upd G 8 (G 8 + 1)) 9 0, t) : (Nat → Int32) × (Nat → Int32)) = (upd (upd G 8 (nI (s + 1))) 9 0, t) := fun G hG => by rw [hG, nI_succ]
  refine key _ ?_
  by_cases c : g 12 = -10000
  · rw [if_pos c]
    by_cases c2 : s_X10_isSegment (t (4 * s)) (t (4 * s + 1)) (t (4 * s + 2)) (t (4 * s + 3)) = 0
    · rw [if_pos c2]; exact upn (by decide) g8
    · rw [if_neg c2]; exact g8
  · rw [if_neg c]; exact g8
/-- the class' reader and the reference's, before number m of segment s -/
def sgI (n s m k k0 : Nat) (f g : Nat → Int32) : Prop := f 1 = nI n ∧ f 3 = nI k ∧ k ≤ n ∧ g 6 = nI n ∧ g 8 = nI s ∧ g 9 = nI m ∧ g 10 = 0 ∧ g 13 = nI k0 ∧ g 12 = f 5
/-- a number and the letter behind it -/
theorem nl_step {text codes : Nat → Int32} {n s m k k0 : Nat} {f g t : Nat → Int32} (hn : n ≤ 90) (hc : ∀ i : Nat, i < n → text i = codes i) (hm : 1 ≤ m ∧ m ≤ 3) (hs : s < 12) (hI : sgI n s m k k0 f g) (hneg : m = 1 → g 11 = 0 → k < n → ¬ text k = 45) : (∃ (h : Nat → Int32) (k2 : Nat), (s_X8_readNumber f codes = (0, h) ∨ ∃ h1, s_X8_readNumber f codes = (1, h1) ∧ s_X8_readSign h1 codes (s_X11_letterOf (nI m)) = (0, h)) ∧ h 1 = nI n ∧ h 3 = nI k2 ∧ k2 ≤ n ∧ (eR text k g t).1 = nI k2) ∨ (∃ (h h2 g2 t2 : Nat → Int32) (k2 : Nat), s_X8_readNumber f codes = (1, h) ∧ s_X8_readSign h codes (s_X11_letterOf (nI m)) = (1, h2) ∧ sgI n s (m + 1) k2 k0 h2 g2 ∧ h2 5 = f 5 ∧ eR text k g t = eR text k2 g2 t2 ∧ g2 11 = 0 ∧ t2 (4 * s + m - 1) = (if g 11 = 0 then h 4 else -(h 4)) ∧ (∀ j : Nat, j ≠ 4 * s + m - 1 → t2 j = t j)) := by
  obtain ⟨f1, f3, hk, g6, g8, g9, g10, g13, g12⟩ := hI
  have hm4 : 1 ≤ m ∧ m ≤ 4 := ⟨hm.1, by omega⟩
  rcases rn_step (t := t) hn hc hs hm4 hk f1 f3 g6 g8 g9 g10 hneg with ⟨h, k2, r1, r2, r3, r4⟩ | ⟨h, g2, t2, k2, d2, r1, r2, r3, r4, r5, r6, r7, r8, r9, r10, r11, r12, r13⟩
  · exact Or.inl ⟨h, k2, Or.inl r1, r2, r3, r4⟩
  · have q6 : g2 6 = nI n := (r7 6 (by decide)).trans g6
    have q8 : g2 8 = nI s := (r7 8 (by decide)).trans g8
    have q9 : g2 9 = nI m := (r7 9 (by decide)).trans g9
    rcases sg_letter (t := t2) hn hc hm hs r5 r2 r3 q6 q8 q9 r8 ⟨r9, r10⟩ r13 with ⟨x1, x2⟩ | ⟨x0, x1, x2⟩
    · exact Or.inl ⟨h, k2, Or.inr ⟨h, r1, x1⟩, r2, r3, r5, by rw [r6]; exact x2⟩
    · refine Or.inr ⟨h, _, _, _, k2 + 1, r1, x1, ⟨upn (by decide) r2, ups, x0, ?_, ?_, ?_, ?_, ?_, ?_⟩, upn (by decide) r4, r6.trans x2, ups, ?_, fun j hj => ?_⟩
      · exact upn (by decide) (upn (by decide) (upn (by decide) (upn (by decide) q6)))
      · exact upn (by decide) (upn (by decide) (upn (by decide) (upn (by decide) q8)))
      · exact upn (by decide) (upn (by decide) ups)
      · exact upn (by decide) ups
      · exact upn (by decide) (upn (by decide) (upn (by decide) (ups.trans ((r7 13 (by decide)).trans g13))))
      · exact upn (by decide) (upn (by decide) (upn (by decide) (upn (by decide) ((r7 12 (by decide)).trans (g12.trans (r4.symm.trans (upn (f := h) (k := 3) (by decide) rfl).symm))))))
      · rw [en_eq hs hm4 q8 q9, ups, r11, r7 11 (by decide)]
      · rw [en_eq hs hm4 q8 q9, upn hj (r12 j hj)]
/-- the last number and the ';' -/
theorem ns_step {text codes : Nat → Int32} {n s k k0 : Nat} {f g t : Nat → Int32} (hn : n ≤ 90) (hc : ∀ i : Nat, i < n → text i = codes i) (hs : s < 12) (hI : sgI n s 4 k k0 f g) (g11 : g 11 = 0) : (∃ (h : Nat → Int32) (k2 : Nat), (s_X8_readNumber f codes = (0, h) ∨ ∃ h1, s_X8_readNumber f codes = (1, h1) ∧ s_X8_readSign h1 codes 59 = (0, h)) ∧ h 1 = nI n ∧ h 3 = nI k2 ∧ k2 ≤ n ∧ (eR text k g t).1 = nI k2) ∨ (∃ (h h2 g2 t2 : Nat → Int32) (k2 : Nat), s_X8_readNumber f codes = (1, h) ∧ s_X8_readSign h codes 59 = (1, h2) ∧ h2 1 = nI n ∧ h2 3 = nI k2 ∧ k2 ≤ n ∧ h2 4 = h 4 ∧ h2 5 = f 5 ∧ eR text k g t = eR text k2 g2 t2 ∧ g2 6 = nI n ∧ g2 8 = nI (s + 1) ∧ g2 9 = 0 ∧ g2 12 = (if f 5 = -10000 then (if s_X10_isSegment (t2 (4 * s)) (t2 (4 * s + 1)) (t2 (4 * s + 2)) (t2 (4 * s + 3)) = 0 then nI k0 else f 5) else f 5) ∧ t2 (4 * s + 3) = h 4 ∧ (∀ j : Nat, j ≠ 4 * s + 3 → t2 j = t j)) := by
  obtain ⟨f1, f3, hk, g6, g8, g9, g10, g13, g12⟩ := hI
  rcases rn_step (t := t) hn hc hs (by decide) hk f1 f3 g6 g8 g9 g10 (fun z => absurd z (by decide)) with ⟨h, k2, r1, r2, r3, r4⟩ | ⟨h, g2, t2, k2, d2, r1, r2, r3, r4, r5, r6, r7, r8, r9, r10, r11, r12, r13⟩
  · exact Or.inl ⟨h, k2, Or.inl r1, r2, r3, r4⟩
  · have q6 : g2 6 = nI n := (r7 6 (by decide)).trans g6
    have q8 : g2 8 = nI s := (r7 8 (by decide)).trans g8
    have q9 : g2 9 = nI 4 := (r7 9 (by decide)).trans g9
    have q11 : g2 11 = 0 := (r7 11 (by decide)).trans g11
    have q12 : g2 12 = f 5 := (r7 12 (by decide)).trans g12
    have q13 : g2 13 = nI k0 := (r7 13 (by decide)).trans g13
    rcases sg_semi (t := t2) hn hc hs r5 r2 r3 q6 q8 q9 r8 ⟨r9, r10⟩ r13 with ⟨x1, x2⟩ | ⟨x0, x1, x2⟩
    · exact Or.inl ⟨h, k2, Or.inr ⟨h, r1, x1⟩, r2, r3, r5, by rw [r6]; exact x2⟩
    · rw [es_eq hs q8 q9 q11] at x2
      dsimp only at x2
      refine Or.inr ⟨h, _, _, _, k2 + 1, r1, x1, upn (by decide) r2, ups, x0, upn (by decide) rfl, upn (by decide) r4, r6.trans x2, ?_, ?_, ups, ?_, r11, fun j hj => r12 j hj⟩
      · refine upn (by decide) (upn (by decide) ?_)
        split
        · split
          · exact upn (by decide) q6
          · exact q6
        · exact q6
      · exact upn (by decide) ups
      · refine upn (by decide) (upn (by decide) ?_)
        rw [q12]
        by_cases c : f 5 = -10000
        · rw [if_pos c, if_pos c]
          by_cases c2 : s_X10_isSegment (t2 (4 * s)) (t2 (4 * s + 1)) (t2 (4 * s + 2)) (t2 (4 * s + 3)) = 0
          · rw [if_pos c2, if_pos c2, ups, q13]
          · rw [if_neg c2, if_neg c2, q12]
        · rw [if_neg c, if_neg c, q12]
