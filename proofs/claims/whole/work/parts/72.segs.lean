/-! segments are added and removed -/
theorem kRel.segs {T : Int} {S : Nat → Nat → Int32} {j : Int64} {w w2 : Nat → Int64} (h : kRel T S j w) {c : Int32} {C : Nat → Int32} (hc : kE (w2 43) c 0 12) (hC : ∀ k : Nat, (k : Int) < 4 * c.toInt → w2 (50 + k) = (C k).toInt64 ∧ kIn (C k) (sLo (k % 4)) (sHi (k % 4))) (hw : ∀ k : Nat, k ≠ 43 → (k < 50 ∨ 98 ≤ k) → w2 k = w k) : kRel T (va_up (va_up S 4 (upd (S 4) 1 c)) 10 C) j w2 := by
  obtain ⟨a1, a2, ⟨r1, r2, r3, r4⟩, ⟨e1, e2, e3⟩, b1, b2, cc⟩ := h
  have hlo : ∀ a : Nat, a ≠ 4 → a ≠ 10 → va_up (va_up S 4 (upd (S 4) 1 c)) 10 C a = S a := fun a h1 h2 => by rw [va_n h2, va_n h1]
  have h10 : va_up (va_up S 4 (upd (S 4) 1 c)) 10 C 10 = C := va_s
  have h41 : va_up (va_up S 4 (upd (S 4) 1 c)) 10 C 4 1 = c := by rw [va_n (show (4 : Nat) ≠ 10 by decide), va_s, ups]
  generalize va_up (va_up S 4 (upd (S 4) 1 c)) 10 C = S2 at hlo h10 h41 ⊢
  refine ⟨fun k hk => ?_, fun k hk => ?_, ⟨?_, ?_, ?_, ?_⟩, ⟨?_, ?_, ?_⟩, ?_, fun i hi => ?_, ?_⟩
  · by_cases c43 : k = 43
    · subst c43
      have e : rS S2 43 = c := h41
      rw [e]
      exact ⟨hc.eq, hc.kin⟩
    · have hle := rA_le k hk
      have hne : (rA k).1 ≠ 4 := fun z => by
        have q : ∀ k : Nat, k < 45 → (rA k).1 = 4 → k = 43 := by decide +kernel
        exact c43 (q k hk z)
      unfold rS
      rw [hlo _ hne (by omega), hw k c43 (by omega)]
      exact a1 k hk
  · rw [h41] at hk
    rw [h10]
    exact hC k hk
  · exact r1.cg (hlo 11 (by decide) (by decide)) (hlo 15 (by decide) (by decide)) (hw 45 (by decide) (by decide)) (fun i hi => hw _ (by omega) (by omega))
  · exact r2.cg (hlo 12 (by decide) (by decide)) (hlo 16 (by decide) (by decide)) (hw 45 (by decide) (by decide)) (fun i hi => hw _ (by omega) (by omega))
  · exact r3.cg (hlo 13 (by decide) (by decide)) (hlo 17 (by decide) (by decide)) (hw 45 (by decide) (by decide)) (fun i hi => hw _ (by omega) (by omega))
  · exact r4.cg (hlo 14 (by decide) (by decide)) (hlo 18 (by decide) (by decide)) (hw 45 (by decide) (by decide)) (fun i hi => hw _ (by omega) (by omega))
  · exact e1.cg (hlo 19 (by decide) (by decide)) (hlo 22 (by decide) (by decide)) (hw 46 (by decide) (by decide)) (fun i hi => hw _ (by omega) (by omega))
  · exact e2.cg (hlo 20 (by decide) (by decide)) (hlo 23 (by decide) (by decide)) (hw 46 (by decide) (by decide)) (fun i hi => hw _ (by omega) (by omega))
  · exact e3.cg (hlo 21 (by decide) (by decide)) (hlo 24 (by decide) (by decide)) (hw 46 (by decide) (by decide)) (fun i hi => hw _ (by omega) (by omega))
  · exact b1.cg (hlo 9 (by decide) (by decide)) (hlo 25 (by decide) (by decide)) (hw 48 (by decide) (by decide)) (fun i hi => hw _ (by omega) (by omega))
  · rw [hw 48 (by decide) (by decide)] at hi
    rw [hw _ (by omega) (by omega)]; exact b2 i hi
  · rw [hw 47 (by decide) (by decide)]; exact cc
theorem sgm_eq (p0 p1 p2 p3 : Int32) : s_X11_isSegment p0 p1 p2 p3 = s_X10_isSegment p0 p1 p2 p3 := by
  have e1 : s_X11_isTemperature p0 = s_X10_isTargetTemperature p0 := inW (kE.lit (a := -400) (x := -400) (n := -400) (by decide) (by decide)) (kE.lit (a := 1800) (x := 1800) (n := 1800) (by decide) (by decide))
  have e2 : s_X11_isHumidity p1 = s_X10_isWithin p1 0 1000 := inW (kE.lit (a := 0) (x := 0) (n := 0) (by decide) (by decide)) (kE.lit (a := 1000) (x := 1000) (n := 1000) (by decide) (by decide))
  have e3 : s_X11_in p2.toInt64 0 500 = s_X10_isWithin p2 0 500 := inW (kE.lit (a := 0) (x := 0) (n := 0) (by decide) (by decide)) (kE.lit (a := 500) (x := 500) (n := 500) (by decide) (by decide))
  have e4 : s_X11_in p3.toInt64 0 500 = s_X10_isWithin p3 0 500 := inW (kE.lit (a := 0) (x := 0) (n := 0) (by decide) (by decide)) (kE.lit (a := 500) (x := 500) (n := 500) (by decide) (by decide))
  unfold s_X11_isSegment s_X10_isSegment s_X10_isTarget
  rw [e1, e2, e3, e4]
  by_cases c1 : s_X10_isTargetTemperature p0 = 0
  · rw [if_pos c1, if_pos c1, if_pos rfl]
  · rw [if_neg c1, if_neg c1]
    by_cases c2 : s_X10_isWithin p1 0 1000 = 0
    · rw [if_pos c2, if_pos c2, if_pos rfl]
    · rw [if_neg c2, if_neg c2, if_neg (show ¬ (1 : Int32) = 0 by decide)]
theorem sgm_yes {p0 p1 p2 p3 : Int32} (h : ¬ s_X10_isSegment p0 p1 p2 p3 = 0) : (-400 ≤ p0.toInt ∧ p0.toInt ≤ 1800) ∧ (0 ≤ p1.toInt ∧ p1.toInt ≤ 1000) ∧ (0 ≤ p2.toInt ∧ p2.toInt ≤ 500) ∧ (0 ≤ p3.toInt ∧ p3.toInt ≤ 500) ∧ 0 < p2.toInt + p3.toInt := by
  unfold s_X10_isSegment s_X10_isTarget s_X10_isTargetTemperature at h
  by_cases c1 : s_X10_isWithin p0 (-400) 1800 = 0
  · rw [if_pos c1, if_pos rfl] at h
    exact absurd rfl h
  · rw [if_neg c1] at h
    by_cases c2 : s_X10_isWithin p1 0 1000 = 0
    · rw [if_pos c2, if_pos rfl] at h
      exact absurd rfl h
    · rw [if_neg c2, if_neg (show ¬ (1 : Int32) = 0 by decide)] at h
      by_cases c3 : s_X10_isWithin p2 0 500 = 0
      · rw [if_pos c3] at h
        exact absurd rfl h
      · rw [if_neg c3] at h
        by_cases c4 : s_X10_isWithin p3 0 500 = 0
        · rw [if_pos c4] at h
          exact absurd rfl h
        · rw [if_neg c4] at h
          have b1 := wi_yes c1
          have b2 := wi_yes c2
          have b3 := wi_yes c3
          have b4 := wi_yes c4
          have b3a : 0 ≤ p2.toInt := b3.1
          have b3b : p2.toInt ≤ 500 := b3.2
          have b4a : 0 ≤ p3.toInt := b4.1
          have b4b : p3.toInt ≤ 500 := b4.2
          refine ⟨⟨b1.1, b1.2⟩, ⟨b2.1, b2.2⟩, ⟨b3a, b3b⟩, ⟨b4a, b4b⟩, ?_⟩
          by_cases c5 : p2 + p3 ≤ 0
          · rw [if_pos c5] at h
            exact absurd rfl h
          · have a : ¬ (p2 + p3).toInt ≤ (0 : Int32).toInt := fun z => c5 (Int32.le_iff_toInt_le.mpr z)
            rw [Int32.toInt_zero, Int32.toInt_add, kn_bmod (by omega) (by omega)] at a
            omega
theorem put48 (f : Nat → Int32) {n : Nat} (h : n < 48) {x p : Int32} (hx : x = nI n) : s_X10_put 48 f x p = upd f n p := by
  unfold s_X10_put
  rw [hx, if_neg (show ¬ nI n < 0 from nI_pos (by omega)), if_neg (show ¬ nI 48 ≤ nI n from nI_ge h (by decide)), nI_clamp (by omega)]
theorem ok_addSegment {l : Launch} (hl0 : l.stackTraces = false) (D : va_G) (cI cJ cO : ClassId) (z : zT) {X : kXS} {Y : kTS} {M : kMS} (b o : Nat) (u : Nat → Nat) (fo : Nat → Int64) (p0 : Int32) (p1 : Int32) (p2 : Int32) (p3 : Int32) (h : rR X Y M) : lStep l D cI cJ cO z yL_addSegment cL_addSegment 7 [(0, 14, 17, 15), (0, 14, 21, 24)] [.ref b, .int p0, .int p1, .int p2, .int p3, .ref o] b o u X Y fo (a_addSegment M p0 p1 p2 p3) ((q_addSegment M p0 p1 p2 p3).1 7) (fun X2 Y2 => rR X2 Y2 (q_addSegment M p0 p1 p2 p3)) := by
  obtain ⟨T, hT1, hT2, hr, hn⟩ := id h.1
  have es := sgm_eq p0 p1 p2 p3
  have er := hr.runs (upd M.1 7 0)
  have e43 : kE (M.2.1 43) (X.1 4 1) 0 12 := hr.e 43 (by decide)
  by_cases v : s_X10_isSegment p0 p1 p2 p3 = 0
  · refine lSt_t (by decide) (by decide) (w_addSegment_0 l hl0 D cI cJ cO z b o u X Y fo p0 p1 p2 p3 v) rfl (by decide) ?_ h
    unfold q_addSegment s_X11_addSegment s_X11_addSegment_1 s_X11_refuse
    rw [if_pos (es.trans v)]
  · have c1 : ¬ s_X11_isSegment p0 p1 p2 p3 = 0 := by rw [es]; exact v
    by_cases v2 : s_X4_isRunning (X.1 5) = 0
    · have c3 : s_X11_runs (upd M.1 7 0) M.2.1 = 0 := er.trans v2
      have ef : (s_X6_isFull (X.1 4) = 0) = (¬ M.2.1 43 = 12) := by
        unfold s_X6_isFull
        by_cases c : X.1 4 1 < 12
        · rw [if_pos c]
          have ci := Int32.lt_iff_toInt_lt.mp c
          refine propext ⟨fun _ y => ?_, fun _ => rfl⟩
          have a := e43.1
          rw [y] at a
          have a2 : (12 : Int64).toInt = 12 := by decide
          have a3 : (12 : Int32).toInt = 12 := by decide
          omega
        · rw [if_neg c]
          have ci : ¬ (X.1 4 1).toInt < (12 : Int32).toInt := fun y => c (Int32.lt_iff_toInt_lt.mpr y)
          refine propext ⟨fun y => absurd y (by decide), fun y => ?_⟩
          refine absurd (Int64.toInt_inj.mp ?_) y
          have a := e43.1
          have b := e43.2.2
          have a2 : (12 : Int64).toInt = 12 := by decide
          have a3 : (12 : Int32).toInt = 12 := by decide
          omega
      by_cases v3 : s_X6_isFull (X.1 4) = 0
      · have c4 : ¬ M.2.1 43 = 12 := ef ▸ v3
        have b43 := e43.kinL.neHi c4 (by decide)
        have hx0 := e43.2.1
        have hx1 : (X.1 4 1).toInt ≤ 11 := by rw [← e43.1]; have := b43.2; omega
        obtain ⟨m1, m2⟩ := nIofI (p := X.1 4 1) (N := 11) hx0 hx1
        generalize (X.1 4 1).toInt.toNat = c at m1 m2
        have hc12 : c < 12 := by omega
        obtain ⟨y0, y1, y2, y3, y4⟩ := sgm_yes v
        have ix : ∀ d : Nat, d < 4 → X.1 4 1 * 4 + nI d = nI (4 * c + d) := fun d hd => by rw [m1]; exact sg_ix c d hc12 hd
        have lx : ∀ d : Nat, d < 4 → (50 + 4 * (M.2.1 43).toInt32) + nI d = nI (50 + 4 * c + d) := fun d hd => by
          rw [e43.back, m1]
          have x2 : 4 * nI c = nI (4 * c) := nI_mul (a := 4) (by omega) (by omega) (by decide)
          have x3 : (50 : Int32) + nI (4 * c) = nI (50 + 4 * c) := nI_plus (a := 50) (by omega)
          rw [x2, x3, nI_plus (by omega)]
        have hq : s_X11_addSegment M.1 M.2.1 M.2.2.1 p0 p1 p2 p3 = ((M.2.1 43 + 1).toInt32 - 1, (s_X11_save (upd M.1 7 0) M.2.2.1 M.2.1).1, vp_updL (vp_updL (vp_updL (vp_updL (vp_updL M.2.1 (50 + 4 * c) p0.toInt64) (50 + 4 * c + 1) p1.toInt64) (50 + 4 * c + 2) p2.toInt64) (50 + 4 * c + 3) p3.toInt64) 43 (M.2.1 43 + 1), (s_X11_save (upd M.1 7 0) M.2.2.1 M.2.1).2) := by
          unfold s_X11_addSegment s_X11_addSegment_4 s_X11_addSegment_3 s_X11_lay
          rw [if_neg c1, if_pos c3, if_neg c4]
          have l0 : (50 + 4 * (M.2.1 43).toInt32) = nI (50 + 4 * c) := by have := lx 0 (by decide); rw [show nI 0 = 0 from rfl, Int32.add_zero] at this; exact this
          have l1 : (50 + 4 * (M.2.1 43).toInt32) + 1 = nI (50 + 4 * c + 1) := lx 1 (by decide)
          have l2 : (50 + 4 * (M.2.1 43).toInt32) + 2 = nI (50 + 4 * c + 2) := lx 2 (by decide)
          have l3 : (50 + 4 * (M.2.1 43).toInt32) + 3 = nI (50 + 4 * c + 3) := lx 3 (by decide)
          rw [l1, l2, l3, l0, nI_clamp (by omega), nI_clamp (by omega), nI_clamp (by omega), nI_clamp (by omega)]
        have hX : (n_addSegment_3 X p0 p1 p2 p3).1 = va_up (va_up X.1 4 (upd (X.1 4) 1 (X.1 4 1 + 1))) 10 (upd (upd (upd (upd (X.1 10) (4 * c) p0) (4 * c + 1) p1) (4 * c + 2) p2) (4 * c + 3) p3) := by
          unfold n_addSegment_3 s_X10_addSegment s_X10_addSegment_1 s_X6_add s_X6_add_4 s_X6_add_3 s_X6_add_2 s_X6_add_1
          rw [if_pos v3]
          have l0 : X.1 4 1 * 4 + 0 = nI (4 * c) := ix 0 (by decide)
          have l1 : X.1 4 1 * 4 + 1 = nI (4 * c + 1) := ix 1 (by decide)
          have l2 : X.1 4 1 * 4 + 2 = nI (4 * c + 2) := ix 2 (by decide)
          have l3 : X.1 4 1 * 4 + 3 = nI (4 * c + 3) := ix 3 (by decide)
          rw [put48 _ (n := 4 * c) (by omega) l0, put48 _ (n := 4 * c + 1) (by omega) l1, put48 _ (n := 4 * c + 2) (by omega) l2, put48 _ (n := 4 * c + 3) (by omega) l3]
        have hV : ∀ k : Nat, vp_updL (vp_updL (vp_updL (vp_updL (vp_updL M.2.1 (50 + 4 * c) p0.toInt64) (50 + 4 * c + 1) p1.toInt64) (50 + 4 * c + 2) p2.toInt64) (50 + 4 * c + 3) p3.toInt64) 43 (M.2.1 43 + 1) k = if k = 43 then M.2.1 43 + 1 else if k = 50 + 4 * c + 3 then p3.toInt64 else if k = 50 + 4 * c + 2 then p2.toInt64 else if k = 50 + 4 * c + 1 then p1.toInt64 else if k = 50 + 4 * c then p0.toInt64 else M.2.1 k := fun k => rfl
        have hCk : ∀ k : Nat, upd (upd (upd (upd (X.1 10) (4 * c) p0) (4 * c + 1) p1) (4 * c + 2) p2) (4 * c + 3) p3 k = if k = 4 * c + 3 then p3 else if k = 4 * c + 2 then p2 else if k = 4 * c + 1 then p1 else if k = 4 * c then p0 else X.1 10 k := fun k => rfl
        have v43 : kE (M.2.1 43 + 1) (X.1 4 1 + 1) 0 12 := (e43.add kE1 (by decide) (by decide)).bd (by have := (e43.add kE1 (by decide) (by decide)).2.1; omega) (by
          have a := (e43.add kE1 (by decide) (by decide)).1
          rw [i64_inc e43.kinL (by decide) (by decide)] at a
          have := b43.2
          omega)
        have hc1 : (X.1 4 1 + 1).toInt = (c : Int) + 1 := by rw [m1, ← nI_succ, nI_toInt (by omega)]; omega
        refine lSt_s h (F := 7) (L := 152) (by decide) (by decide) (fun ki a1 a2 a3 a4 => w_addSegment_3 l hl0 D cI cJ cO z b o u X Y fo ki p0 p1 p2 p3 a1 a2 a3 a4 v v2 v3) (by unfold q_addSegment; rw [hq]) rfl rfl rfl ?_ ?_
        · rw [hX]
          generalize vp_updL (vp_updL (vp_updL (vp_updL (vp_updL M.2.1 (50 + 4 * c) p0.toInt64) (50 + 4 * c + 1) p1.toInt64) (50 + 4 * c + 2) p2.toInt64) (50 + 4 * c + 3) p3.toInt64) 43 (M.2.1 43 + 1) = w2 at hV
          generalize upd (upd (upd (upd (X.1 10) (4 * c) p0) (4 * c + 1) p1) (4 * c + 2) p2) (4 * c + 3) p3 = C at hCk
          show kSt _ _ w2
          have w43 : w2 43 = M.2.1 43 + 1 := (hV 43).trans (if_pos rfl)
          have wlo : ∀ k : Nat, k ≠ 43 → (k < 50 ∨ 98 ≤ k) → w2 k = M.2.1 k := fun k h1 h2 => by rw [hV, if_neg h1, if_neg (by omega), if_neg (by omega), if_neg (by omega), if_neg (by omega)]
          have k := hr.segs (w2 := w2) (C := C) (by rw [w43]; exact v43) (fun k hk => by
            rw [hc1] at hk
            rw [hV, hCk, if_neg (by omega)]
            by_cases q3 : k = 4 * c + 3
            · rw [if_pos (by omega), if_pos q3]
              exact ⟨rfl, by rw [show k % 4 = 3 by omega]; exact ⟨y3.1, y3.2⟩⟩
            · rw [if_neg (by omega), if_neg q3]
              by_cases q2 : k = 4 * c + 2
              · rw [if_pos (by omega), if_pos q2]
                exact ⟨rfl, by rw [show k % 4 = 2 by omega]; exact ⟨y2.1, y2.2⟩⟩
              · rw [if_neg (by omega), if_neg q2]
                by_cases q1 : k = 4 * c + 1
                · rw [if_pos (by omega), if_pos q1]
                  exact ⟨rfl, by rw [show k % 4 = 1 by omega]; exact ⟨y1.1, y1.2⟩⟩
                · rw [if_neg (by omega), if_neg q1]
                  by_cases q0 : k = 4 * c
                  · rw [if_pos (by omega), if_pos q0]
                    exact ⟨rfl, by rw [show k % 4 = 0 by omega]; exact ⟨y0.1, y0.2⟩⟩
                  · rw [if_neg (by omega), if_neg q0]
                    exact hr.2.1 k (by omega)) wlo
          refine kSt.of hT1 hT2 (hr.e 32 (by decide)).eq k rfl ⟨fun i hi => ?_, fun y => ?_⟩
          · rw [w43, v43.1, hc1] at hi
            by_cases ci : i = c
            · subst ci
              have q2 : w2 (50 + 4 * i + 2) = p2.toInt64 := by rw [hV, if_neg (by omega), if_neg (by omega), if_pos rfl]
              have q3 : w2 (50 + 4 * i + 3) = p3.toInt64 := by rw [hV, if_neg (by omega), if_pos rfl]
              rw [q2, q3, Int32.toInt_toInt64, Int32.toInt_toInt64]
              exact y4
            · have q2 : w2 (50 + 4 * i + 2) = M.2.1 (50 + 4 * i + 2) := by rw [hV, if_neg (by omega), if_neg (by omega), if_neg (by omega), if_neg (by omega), if_neg (by omega)]
              have q3 : w2 (50 + 4 * i + 3) = M.2.1 (50 + 4 * i + 3) := by rw [hV, if_neg (by omega), if_neg (by omega), if_neg (by omega), if_neg (by omega), if_neg (by omega)]
              rw [q2, q3]
              exact hn.1 i (by rw [e43.1]; omega)
          · rw [wlo 33 (by decide) (by decide)] at y
            exact absurd y (hr.norun v2)
        · refine congrArg Int32.toInt64 ?_
          have a2 : a_addSegment M p0 p1 p2 p3 = (M.2.1 43 + 1).toInt32 - 1 := by unfold a_addSegment; rw [hq]
          have a1 : r_addSegment_3 X p0 p1 p2 p3 = X.1 4 1 := by
            unfold r_addSegment_3 s_X10_addSegment s_X10_addSegment_1
            rfl
          rw [a1, a2, v43.back, Int32.add_sub_cancel]
      · have c4 : M.2.1 43 = 12 := by
          by_cases y : M.2.1 43 = 12
          · exact y
          · exact absurd (pT ef y) v3
        refine lSt_t (by decide) (by decide) (w_addSegment_2 l hl0 D cI cJ cO z b o u X Y fo p0 p1 p2 p3 v v2 v3) rfl (by decide) ?_ h
        unfold q_addSegment s_X11_addSegment s_X11_addSegment_2 s_X11_refuse
        rw [if_neg c1, if_pos c3, if_pos c4]
    · have c3 : ¬ s_X11_runs (upd M.1 7 0) M.2.1 = 0 := by rw [er]; exact v2
      refine lSt_t (by decide) (by decide) (w_addSegment_1 l hl0 D cI cJ cO z b o u X Y fo p0 p1 p2 p3 v v2) rfl (by decide) ?_ h
      unfold q_addSegment s_X11_addSegment s_X11_addSegment_5 s_X11_refuse
      rw [if_neg c1, if_neg c3]
theorem kRem32 {N : Nat} {b : Int32 × (Nat → Int32) → (Int32 × (Nat → Int32)) ⊕ (Int32 × (Nat → Int32))} {D0 : Int32 × (Nat → Int32)} (hb : ∀ (i : Nat) (g : Nat → Int32), i < N → b (nI i, g) = .inl (nI (i + 1), upd g i (g (i + 4)))) (he : ∀ g : Nat → Int32, b (nI N, g) = .inr (nI N, g)) : ∀ (n i : Nat) (g : Nat → Int32), i + n = N → ∀ k : Nat, (kLoop D0 b (n + 1) (nI i, g)).2 k = if i ≤ k ∧ k < N then g (k + 4) else g k := by
  intro n
  induction n with
  | zero =>
    intro i g h k
    have e : i = N := by omega
    subst e
    rw [kLoop_out (he g), if_neg (by omega)]
  | succ n ih =>
    intro i g h k
    rw [kLoop_in (hb i g (by omega)), ih (i + 1) _ (by omega) k]
    by_cases c : i + 1 ≤ k ∧ k < N
    · rw [if_pos c, if_pos (by omega)]
      exact upn (by omega) rfl
    · rw [if_neg c]
      by_cases c2 : k = i
      · rw [if_pos (by omega), c2, ups]
      · rw [if_neg (by omega)]
        exact upn c2 rfl
theorem kRem64 {N : Nat} {v : Int64} {b : Int32 × (Nat → Int64) → (Int32 × (Nat → Int64)) ⊕ (Int32 × (Nat → Int64))} {D0 : Int32 × (Nat → Int64)} (hb : ∀ (i : Nat) (g : Nat → Int64), g 43 = v → i < N → b (nI i, g) = .inl (nI (i + 1), vp_updL g (50 + i) (g (50 + i + 4)))) (he : ∀ g : Nat → Int64, g 43 = v → b (nI N, g) = .inr (nI N, g)) : ∀ (n i : Nat) (g : Nat → Int64), g 43 = v → i ≤ N → N ≤ i + n → ∀ k : Nat, (kLoop D0 b (n + 1) (nI i, g)).2 k = if 50 + i ≤ k ∧ k < 50 + N then g (k + 4) else g k := by
  intro n
  induction n with
  | zero =>
    intro i g hg h h2 k
    have e : i = N := by omega
    subst e
    rw [kLoop_out (he g hg), if_neg (by omega)]
  | succ n ih =>
    intro i g hg h h2 k
    by_cases ci : i = N
    · subst ci
      rw [kLoop_out (he g hg), if_neg (by omega)]
    · rw [kLoop_in (hb i g hg (by omega)), ih (i + 1) _ ((upnL (by omega) rfl).trans hg) (by omega) (by omega) k]
      by_cases c : 50 + (i + 1) ≤ k ∧ k < 50 + N
      · rw [if_pos c, if_pos (by omega)]
        exact upnL (by omega) rfl
      · rw [if_neg c]
        by_cases c2 : k = 50 + i
        · rw [if_pos (by omega), c2, upsL]
        · rw [if_neg (by omega)]
          exact upnL c2 rfl
theorem at48 (f : Nat → Int32) {n : Nat} (h : n < 48) {x : Int32} (hx : x = nI n) : s_X10_at 48 f x = f n := by
  rw [hx]; exact at_nI h (by decide)
theorem rm_32 {f cells : Nat → Int32} {c i : Nat} (hc : c ≤ 12) (hi : i < c) (h1 : f 1 = nI c) (k : Nat) : (s_X6_remove f cells (nI i)).2 k = (if 4 * i ≤ k ∧ k < 4 * (c - 1) then cells (k + 4) else cells k) ∧ (s_X6_remove f cells (nI i)).1 = upd f 1 (nI (c - 1)) := by
  have e1 : f 1 - 1 = nI (c - 1) := by rw [h1]; exact nI_minus (b := 1) (by omega) (by omega)
  have e2 : (f 1 - 1) * 4 = nI (4 * (c - 1)) := by
    rw [e1]
    have := nI_mul (a := c - 1) (c := 4) (by omega) (by decide) (by omega)
    rw [show (c - 1) * 4 = 4 * (c - 1) by omega] at this
    exact this
  have e3 : nI i * 4 = nI (4 * i) := by
    have := nI_mul (a := i) (c := 4) (by omega) (by decide) (by omega)
    rw [show i * 4 = 4 * i by omega] at this
    exact this
  have r := kRem32 (N := 4 * (c - 1)) (b := b_X6_remove_L4 f) (D0 := default) (fun i g hi => ?_) (fun g => ?_) (4 * (c - 1) - 4 * i) (4 * i) cells (by omega) k
  · unfold s_X6_remove s_X6_remove_2
    rw [e2, e3, e1]
    have ef : ((nI (4 * (c - 1))).toInt - (nI (4 * i)).toInt).toNat + 1 = (4 * (c - 1) - 4 * i) + 1 := by
      rw [nI_toInt (by omega), nI_toInt (by omega)]
      omega
    rw [ef]
    exact ⟨r, rfl⟩
  · unfold b_X6_remove_L4 b_X6_remove_1
    have c1 : ¬ nI (4 * (c - 1)) ≤ nI i := nI_ge hi (by omega)
    show (if (f 1 - 1) * 4 ≤ nI i then Sum.inr (nI i, g) else Sum.inl (nI i + 1, s_X10_put 48 g (nI i) (s_X10_at 48 g (nI i + 4)))) = _
    rw [e2, if_neg c1, put48 g (n := i) (by omega) rfl, at48 g (n := i + 4) (by omega) (nI_4 i), nI_succ]
  · unfold b_X6_remove_L4
    show (if (f 1 - 1) * 4 ≤ nI (4 * (c - 1)) then Sum.inr (nI (4 * (c - 1)), g) else _) = _
    rw [e2, if_pos (nI_le (Nat.le_refl _) (by omega))]
theorem rm_64 {w : Nat → Int64} {c i : Nat} (hc : c ≤ 12) (hi : i < c) (h1 : w 43 = (nI (c - 1)).toInt64) (k : Nat) : (kLoop default (b_X11_removeSegment_L51) ((48 - Int32.toInt (4 * nI i)).toNat + 1) ((4 * nI i), w)).2 k = if 50 + 4 * i ≤ k ∧ k < 50 + 4 * (c - 1) then w (k + 4) else w k := by
  have e3 : 4 * nI i = nI (4 * i) := nI_mul (a := 4) (by omega) (by omega) (by decide)
  have e4 : ∀ q : Nat, q ≤ 48 → (4 * (nI (c - 1)).toInt64 ≤ (nI q).toInt64) = (4 * (c - 1) ≤ q) := fun q hq => by
    rw [Int64.le_iff_toInt_le, nIL (by omega), Int64.toInt_mul, nIL (by omega), show (4 : Int64).toInt = 4 by decide, kn_bmodL (by omega) (by omega)]
    exact propext ⟨fun z => by omega, fun z => by omega⟩
  have r := kRem64 (N := 4 * (c - 1)) (v := (nI (c - 1)).toInt64) (b := b_X11_removeSegment_L51) (D0 := default) (fun i g hg hi => ?_) (fun g hg => ?_) (48 - 4 * i) (4 * i) w h1 (by omega) (by omega) k
  · have ef : (48 - Int32.toInt (4 * nI i)).toNat + 1 = (48 - 4 * i) + 1 := by
      rw [e3, nI_toInt (by omega)]
      omega
    rw [ef, e3]
    exact r
  · unfold b_X11_removeSegment_L51
    show (if 4 * g 43 ≤ (nI i).toInt64 then Sum.inr (nI i, g) else Sum.inl (nI i + 1, vp_updL g (Int32.toNatClampNeg (50 + nI i)) (g (Int32.toNatClampNeg ((50 + nI i) + 4))))) = _
    have x1 : (50 : Int32) + nI i = nI (50 + i) := nI_plus (a := 50) (by omega)
    rw [hg, if_neg (by rw [e4 i (by omega)]; omega), x1, nI_4, nI_clamp (by omega), nI_clamp (by omega), nI_succ]
  · unfold b_X11_removeSegment_L51
    show (if 4 * g 43 ≤ (nI (4 * (c - 1))).toInt64 then Sum.inr (nI (4 * (c - 1)), g) else _) = _
    rw [hg, if_pos (by rw [e4 _ (by omega)]; exact Nat.le_refl _)]
theorem ok_removeSegment {l : Launch} (hl0 : l.stackTraces = false) (D : va_G) (cI cJ cO : ClassId) (z : zT) {X : kXS} {Y : kTS} {M : kMS} (b o : Nat) (u : Nat → Nat) (fo : Nat → Int64) (p0 : Int32) (h : rR X Y M) : lStep l D cI cJ cO z yL_removeSegment cL_removeSegment 4 [(0, 9, 12, 13), (0, 9, 15, 24)] [.ref b, .int p0, .ref o] b o u X Y fo (a_removeSegment M p0) ((q_removeSegment M p0).1 7) (fun X2 Y2 => rR X2 Y2 (q_removeSegment M p0)) := by
  obtain ⟨T, hT1, hT2, hr, hn⟩ := id h.1
  have e := has_eq hr (upd M.1 7 0) p0
  have er := hr.runs (upd M.1 7 0)
  have e43 : kE (M.2.1 43) (X.1 4 1) 0 12 := hr.e 43 (by decide)
  by_cases v : p0 < 0 ∨ X.1 4 1 ≤ p0
  · refine lSt_t (by decide) (by decide) (w_removeSegment_0 l hl0 D cI cJ cO z b o u X Y fo p0 v) rfl (by decide) ?_ h
    unfold q_removeSegment s_X11_removeSegment s_X11_removeSegment_1 s_X11_refuse
    rw [if_pos (pT e v)]
  · have c1 : ¬ s_X11_hasSegment (upd M.1 7 0) M.2.1 p0 = 0 := pTn e v
    by_cases v2 : s_X4_isRunning (X.1 5) = 0
    · have c3 : s_X11_runs (upd M.1 7 0) M.2.1 = 0 := er.trans v2
      have u1 : ¬ p0.toInt < (0 : Int32).toInt := fun z => v (Or.inl (Int32.lt_iff_toInt_lt.mpr z))
      rw [Int32.toInt_zero] at u1
      have u2 : ¬ (X.1 4 1).toInt ≤ p0.toInt := fun z => v (Or.inr (Int32.le_iff_toInt_le.mpr z))
      have e43u := e43.2.2
      obtain ⟨m1, m2⟩ := nIofI (p := p0) (N := 12) (by omega) (by omega)
      obtain ⟨n1, n2⟩ := nIofI (p := X.1 4 1) (N := 12) e43.2.1 e43.2.2
      generalize (X.1 4 1).toInt.toNat = c at n1 n2
      generalize p0.toInt.toNat = i at m1 m2
      have hic : i < c := by omega
      have hc12 : c ≤ 12 := by omega
      have hm1 : M.2.1 43 - 1 = (nI (c - 1)).toInt64 := by rw [e43.eq, n1]; exact nIL_dec (by omega) (by omega)
      have b1 : vp_updL M.2.1 43 (M.2.1 43 - 1) 43 = (nI (c - 1)).toInt64 := by rw [upsL, hm1]
      have rw64 := rm_64 hc12 hic b1
      have hq : s_X11_removeSegment M.1 M.2.1 M.2.2.1 p0 = (((kLoop default (b_X11_removeSegment_L51) ((48 - Int32.toInt (4 * nI i)).toNat + 1) ((4 * nI i), vp_updL M.2.1 43 (M.2.1 43 - 1))).2 43).toInt32, (s_X11_save (upd M.1 7 0) M.2.2.1 M.2.1).1, (kLoop default (b_X11_removeSegment_L51) ((48 - Int32.toInt (4 * nI i)).toNat + 1) ((4 * nI i), vp_updL M.2.1 43 (M.2.1 43 - 1))).2, (s_X11_save (upd M.1 7 0) M.2.2.1 M.2.1).2) := by
        unfold s_X11_removeSegment s_X11_removeSegment_3 s_X11_removeSegment_2
        rw [if_neg c1, if_pos c3, m1]
      generalize (kLoop default (b_X11_removeSegment_L51) ((48 - Int32.toInt (4 * nI i)).toNat + 1) ((4 * nI i), vp_updL M.2.1 43 (M.2.1 43 - 1))).2 = w2 at rw64 hq
      have r32 := fun k => rm_32 (f := X.1 4) (cells := X.1 10) hc12 hic n1 k
      have hX : (n_removeSegment_2 X p0).1 = va_up (va_up X.1 4 (upd (X.1 4) 1 (nI (c - 1)))) 10 (s_X6_remove (X.1 4) (X.1 10) (nI i)).2 := by
        unfold n_removeSegment_2 s_X10_removeSegment s_X10_removeSegment_1
        rw [m1, (r32 0).2]
      have ha1 : r_removeSegment_2 X p0 = nI (c - 1) := by
        unfold r_removeSegment_2 s_X10_removeSegment s_X10_removeSegment_1
        rw [m1, (r32 0).2]
        show upd (X.1 4) 1 (nI (c - 1)) 1 = _
        exact ups
      have w43 : w2 43 = (nI (c - 1)).toInt64 := by rw [rw64, if_neg (by omega), b1]
      have v43 : kE (w2 43) (nI (c - 1)) 0 12 := by
        rw [w43]
        exact kE.up ⟨by rw [nI_toInt (by omega)]; omega, by rw [nI_toInt (by omega)]; omega⟩
      refine lSt_s h (F := 7) (L := 148) (by decide) (by decide) (fun ki a1 a2 a3 a4 => w_removeSegment_2 l hl0 D cI cJ cO z b o u X Y fo ki p0 a1 a2 a3 a4 v v2) (by unfold q_removeSegment; rw [hq]) rfl rfl rfl ?_ ?_
      · rw [hX]
        have r32a := fun k => (r32 k).1
        generalize (s_X6_remove (X.1 4) (X.1 10) (nI i)).2 = C at r32a
        show kSt _ _ w2
        have wlo : ∀ k : Nat, k ≠ 43 → (k < 50 ∨ 98 ≤ k) → w2 k = M.2.1 k := fun k h1 h2 => by
          rw [rw64, if_neg (by omega)]
          exact upnL h1 rfl
        have wsg : ∀ k : Nat, 50 ≤ k → k < 98 → w2 k = if 50 + 4 * i ≤ k ∧ k < 50 + 4 * (c - 1) then M.2.1 (k + 4) else M.2.1 k := fun k h1 h2 => by
          rw [rw64]
          by_cases q : 50 + 4 * i ≤ k ∧ k < 50 + 4 * (c - 1)
          · rw [if_pos q, if_pos q]
            exact upnL (by omega) rfl
          · rw [if_neg q, if_neg q]
            exact upnL (by omega) rfl
        have hcv : (nI (c - 1)).toInt = (c : Int) - 1 := by rw [nI_toInt (by omega)]; omega
        have k := hr.segs (w2 := w2) (C := C) v43 (fun k hk => by
          rw [hcv] at hk
          rw [wsg (50 + k) (by omega) (by omega), r32a]
          by_cases q : 4 * i ≤ k ∧ k < 4 * (c - 1)
          · rw [if_pos q, if_pos (by omega), show k % 4 = (k + 4) % 4 by omega]
            exact hr.2.1 (k + 4) (by omega)
          · rw [if_neg q, if_neg (by omega)]
            exact hr.2.1 k (by omega)) wlo
        refine kSt.of hT1 hT2 (hr.e 32 (by decide)).eq k rfl ⟨fun i2 hi => ?_, fun y => ?_⟩
        · rw [v43.1, hcv] at hi
          rw [wsg _ (by omega) (by omega), wsg _ (by omega) (by omega)]
          by_cases q : i ≤ i2
          · rw [if_pos (by omega), if_pos (by omega)]
            have := hn.1 (i2 + 1) (by rw [e43.1]; omega)
            rw [show 50 + 4 * (i2 + 1) + 2 = 50 + 4 * i2 + 2 + 4 by omega, show 50 + 4 * (i2 + 1) + 3 = 50 + 4 * i2 + 3 + 4 by omega] at this
            exact this
          · rw [if_neg (by omega), if_neg (by omega)]
            exact hn.1 i2 (by rw [e43.1]; omega)
        · rw [wlo 33 (by decide) (by decide)] at y
          exact absurd y (hr.norun v2)
      · refine congrArg Int32.toInt64 ?_
        have a2 : a_removeSegment M p0 = (w2 43).toInt32 := by unfold a_removeSegment; rw [hq]
        rw [ha1, a2, v43.back]
    · have c3 : ¬ s_X11_runs (upd M.1 7 0) M.2.1 = 0 := by rw [er]; exact v2
      refine lSt_t (by decide) (by decide) (w_removeSegment_1 l hl0 D cI cJ cO z b o u X Y fo p0 v v2) rfl (by decide) ?_ h
      unfold q_removeSegment s_X11_removeSegment s_X11_removeSegment_4 s_X11_refuse
      rw [if_neg c1, if_neg c3]
