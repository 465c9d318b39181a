/-! the law's steps: what is changed without a minute -/
theorem kSt.of {T : Int} {S S2 : Nat → Nat → Int32} {j2 : Int64} {w w2 : Nat → Int64} (hT : T ≤ 20000) (h32 : (w 32).toInt = T) (e : w 32 = (S 0 0).toInt64) (k : kRel T S2 j2 w2) (h0 : S2 0 0 = S 0 0) (hn : kRn 0 w2) : kSt S2 j2 w2 := by
  refine ⟨T, hT, ?_, k, hn⟩
  have a : (w2 32).toInt = (S2 0 0).toInt := (k.e 32 (by decide)).1
  rw [a, h0, ← h32, e, Int32.toInt_toInt64]
theorem kRel.run {T : Int} {S : Nat → Nat → Int32} {j : Int64} {w : Nat → Int64} (h : kRel T S j w) (v : ¬ s_X4_isRunning (S 5) = 0) : w 33 = 1 ∨ w 33 = 2 := by
  rw [← h.runs (fun _ => 0)] at v
  unfold s_X11_runs at v
  by_cases c1 : w 33 = 1
  · exact Or.inl c1
  · rw [if_neg c1] at v
    by_cases c2 : w 33 = 2
    · exact Or.inr c2
    · rw [if_neg c2] at v
      exact absurd rfl v
theorem kRel.norun {T : Int} {S : Nat → Nat → Int32} {j : Int64} {w : Nat → Int64} (h : kRel T S j w) (v : s_X4_isRunning (S 5) = 0) : ¬ (w 33 = 1 ∨ w 33 = 2) := by
  rw [← h.runs (fun _ => 0)] at v
  unfold s_X11_runs at v
  intro c
  rcases c with c | c
  · rw [if_pos c] at v
    exact absurd v (by decide)
  · rw [if_neg (by rw [c]; decide), if_pos c] at v
    exact absurd v (by decide)
/-- what a saving call leaves -/
theorem rR.save {X : kXS} {Y : kTS} {M : kMS} (h : rR X Y M) : ∃ p : Nat, X.2.2.2.2.1 1 = nI p ∧ p < 6 ∧ p ≤ Y.1 ∧ kSb X.1 ∧ (s_X11_save (upd M.1 7 0) M.2.2.1 M.2.1).1 7 = 0 ∧ ∀ (X2 : kXS) (w2 : Nat → Int64), kSt X2.1 X2.2.1 w2 → X2.2.2.2.2.1 = kKf X.2.2.2.2.1 → X2.2.2.2.2.2.1 = X.2.2.2.2.2.1 → X2.2.2.2.2.2.2.1 = X.2.2.2.2.2.2.1 → ∀ uu : Nat → Nat, rR X2 (tK p X Y uu) ((s_X11_save (upd M.1 7 0) M.2.2.1 M.2.1).1, w2, (s_X11_save (upd M.1 7 0) M.2.2.1 M.2.1).2, M.2.2.2) := by
  have fr := fr_X11_save_t (upd M.1 7 0) M.2.2.1 M.2.1 h.n5
  obtain ⟨p, h1, h2, h3, h4⟩ := h.2.1.keep (f := upd M.1 7 0) h.1 rfl
  generalize s_X11_save (upd M.1 7 0) M.2.2.1 M.2.1 = sf at fr h4 ⊢
  have e : sf.1 6 = M.1 6 := (fr 6 (by decide)).trans (upn (by decide) rfl)
  refine ⟨p, h1, h2, h3, h.1.sb, (fr 7 (by decide)).trans ups, fun X2 w2 k1 k2 k3 k4 uu => ⟨k1, ?_, ?_⟩⟩
  · rw [k2]
    exact h4 uu X rfl rfl
  · rw [k3, k4]
    show kTx _ _ (sf.1 6) M.2.2.2.2.1
    rw [e]
    exact h.2.2
section LSS
variable {l : Launch} {D : va_G} {cI cJ cO : ClassId} {z : zT} {y : MethodName} {code : ByteArray} {nL : Nat} {hh : List (Nat × Nat × Nat × Nat)} {av : List Value} {b o : Nat} {u : Nat → Nat} {X X2 : kXS} {Y : kTS} {M q : kMS} {fo : Nat → Int64} {rM : Int32} {F L : Nat} {v : Int64} {w2 : Nat → Int64}
theorem lSt_s (h : rR X Y M) (hF : F ≤ 10) (hL : L ≤ 300) (hw : ∀ ki : Nat, X.2.2.2.2.1 1 = nI ki → ki < 6 → ki ≤ Y.1 → kSb X.1 → kWi l y code nL hh F L 26 331 D (kT cI cJ cO) z av (xwW cI cJ cO b o u X Y fo ++ kTl cI Y) 0 (fun uu : Nat → Nat => xwW cI cJ cO b o u X2 (tK ki X Y uu) (vp_updL fo 0 v) ++ kTl cI (tK ki X Y uu))) (hq : q = ((s_X11_save (upd M.1 7 0) M.2.2.1 M.2.1).1, w2, (s_X11_save (upd M.1 7 0) M.2.2.1 M.2.1).2, M.2.2.2)) (hs : X2.2.2.2.2.1 = kKf X.2.2.2.2.1) (ht : X2.2.2.2.2.2.1 = X.2.2.2.2.2.1) (hc : X2.2.2.2.2.2.2.1 = X.2.2.2.2.2.2.1) (hst : kSt X2.1 X2.2.1 w2) (hv : v = rM.toInt64) : lStep l D cI cJ cO z y code nL hh av b o u X Y fo rM (q.1 7) (fun X3 Y3 => rR X3 Y3 q) := by
  obtain ⟨p, h1, h2, h3, h4, h5, h6⟩ := h.save
  subst hq
  exact lSt_k hF hL (hw p h1 h2 h3 h4) h5 hv (fun uu => h6 X2 w2 hst hs ht hc uu)
end LSS
theorem zb_lo : ∀ n : Nat, n < 12 → (zL n).toInt = rLo n ∧ (zG n).toInt = rHi 0 n := by decide +kernel
theorem rHi_set (T : Int) : ∀ n : Nat, n < 12 → rHi T n = rHi 0 n := by
  intro n hn
  match n, hn with
  | 0, _ => rfl
  | 1, _ => rfl
  | 2, _ => rfl
  | 3, _ => rfl
  | 4, _ => rfl
  | 5, _ => rfl
  | 6, _ => rfl
  | 7, _ => rfl
  | 8, _ => rfl
  | 9, _ => rfl
  | 10, _ => rfl
  | 11, _ => rfl
  | n + 12, h => exact absurd h (by omega)
theorem ls_eq : ∀ n : Nat, n < 12 → s_X11_least (nI n) = zL n ∧ s_X11_most (nI n) = zG n := by decide +kernel
theorem ok_set {l : Launch} (hl0 : l.stackTraces = false) (D : va_G) (cI cJ cO : ClassId) (z : zT) {X : kXS} {Y : kTS} {M : kMS} (b o : Nat) (u : Nat → Nat) (fo : Nat → Int64) (p0 : Int32) (p1 : Int32) (h : rR X Y M) : lStep l D cI cJ cO z yL_set cL_set 5 [(0, 10, 13, 13), (0, 10, 17, 15)] [.ref b, .int p0, .int p1, .ref o] b o u X Y fo (a_set M p0 p1) ((q_set M p0 p1).1 7) (fun X2 Y2 => rR X2 Y2 (q_set M p0 p1)) := by
  obtain ⟨T, hT1, hT2, hr, hn⟩ := id h.1
  have e : s_X11_in p0.toInt64 0 11 = s_X10_isWithin p0 0 11 := inW (kE.lit (a := 0) (x := 0) (n := 0) (by decide) (by decide)) (kE.lit (a := 11) (x := 11) (n := 11) (by decide) (by decide))
  have e2 : (s_X10_isWithin p0 0 11 = 0) = (p0 < 0 ∨ 12 ≤ p0) := wi_eq (by decide) (by decide)
  by_cases v : p0 < 0 ∨ 12 ≤ p0
  · refine lSt_t (by decide) (by decide) (w_set_0 l hl0 D cI cJ cO z b o u X Y fo p0 p1 v) rfl (by decide) ?_ h
    unfold q_set s_X11_set s_X11_set_1 s_X11_refuse
    rw [if_pos (by rw [e, e2]; exact v)]
  · have c : ¬ s_X11_in p0.toInt64 0 11 = 0 := by rw [e, e2]; exact v
    have w := wi_yes (p := p0) (x := 0) (y := 11) (by rw [e2]; exact v)
    have w1 : 0 ≤ p0.toInt := w.1
    have w2 : p0.toInt ≤ 11 := w.2
    obtain ⟨n1, n2⟩ := nIofI w1 w2
    have hc : p0.toNatClampNeg = p0.toInt.toNat := rfl
    generalize hnn : p0.toInt.toNat = n at n1 n2 hc
    have hn12 : n < 12 := by omega
    have hls := ls_eq n hn12
    have e4 : s_X11_in p1.toInt64 (s_X11_least p0).toInt64 (s_X11_most p0).toInt64 = s_X10_isWithin p1 (zL n) (zG n) := by
      rw [n1, hls.1, hls.2]
      exact inW (kE.any _) (kE.any _)
    by_cases v2 : s_X10_isWithin p1 (zL n) (zG n) = 0
    · refine lSt_t (by decide) (by decide) (w_set_2 l hl0 D cI cJ cO z b o u X Y fo p0 p1 v (by rw [hc]; exact v2)) rfl (by decide) ?_ h
      unfold q_set s_X11_set s_X11_set_4 s_X11_set_2 s_X11_refuse
      rw [if_neg c, if_pos (e4.trans v2)]
    · have c2 : ¬ s_X11_in p1.toInt64 (s_X11_least p0).toInt64 (s_X11_most p0).toInt64 = 0 := by rw [e4]; exact v2
      have b1 := wi_yes v2
      have zz := zb_lo n hn12
      have rs : rA n = (1, n) := rA_set n hn12
      have k := (hr.sel 1).set2 n (by omega) (by omega) (by rw [rs]) (x := p1) (v := p1.toInt64) (kE.up (lo := rLo n) (hi := rHi T n) ⟨by rw [← zz.1]; exact b1.1, by rw [rHi_set T n hn12, ← zz.2]; exact b1.2⟩) (Int.le_refl _) (Int.le_refl _)
      rw [rs] at k
      have hq : s_X11_set M.1 M.2.2.1 M.2.1 p0 p1 = ((M.2.1 n).toInt32, (s_X11_save (upd M.1 7 0) M.2.2.1 M.2.1).1, (s_X11_save (upd M.1 7 0) M.2.2.1 M.2.1).2, vp_updL M.2.1 n p1.toInt64) := by
        unfold s_X11_set s_X11_set_4 s_X11_set_3
        rw [if_neg c, if_neg c2, Int32.zero_add, hc]
      have hX : (n_set_1 X p0 p1).1 = va_up X.1 1 (upd (X.1 1) n p1) := by
        unfold n_set_1 s_X10_set s_X10_set_1 s_X10_put
        rw [n1, if_neg (show ¬ nI n < 0 from nI_pos (by omega)), if_neg (show ¬ nI 12 ≤ nI n from nI_ge hn12 (by decide)), nI_clamp (by omega)]
      refine lSt_s h (F := 7) (L := 150) (by decide) (by decide) (fun ki a1 a2 a3 a4 => w_set_1 l hl0 D cI cJ cO z b o u X Y fo ki p0 p1 a1 a2 a3 a4 v (by rw [hc]; exact v2)) (by unfold q_set; rw [hq]) rfl rfl rfl ?_ ?_
      · rw [hX]
        refine kSt.of hT1 hT2 (hr.e 32 (by decide)).eq k rfl (hn.cg (Int.le_refl _) (fun i hi => upnL (by omega) rfl) (hr.e 43 (by decide)).kinL.2)
      · refine congrArg Int32.toInt64 ?_
        have a1 : r_set_1 X p0 p1 = X.1 1 n := by
          unfold r_set_1 s_X10_set s_X10_set_1
          exact at12 _ hn12 n1
        have a2 : a_set M p0 p1 = (M.2.1 n).toInt32 := by unfold a_set; rw [hq]
        have b2 : rS X.1 n = X.1 1 n := by unfold rS; rw [rs]
        rw [a1, a2, (hr.e n (by omega)).back, b2]
theorem ok_setMode_0 {l : Launch} (hl0 : l.stackTraces = false) (D : va_G) (cI cJ cO : ClassId) (z : zT) {X : kXS} {Y : kTS} {M : kMS} (b o : Nat) (u : Nat → Nat) (fo : Nat → Int64) (p1 : Int32) (p2 : Int32) (p3 : Int32) (h : rR X Y M) : lStep l D cI cJ cO z yL_setMode cL_setMode 7 [(0, 14, 17, 13), (0, 14, 21, 15)] [.ref b, .int 0, .int p1, .int p2, .int p3, .ref o] b o u X Y fo (a_setMode M 0 p1 p2 p3) ((q_setMode M 0 p1 p2 p3).1 7) (fun X2 Y2 => rR X2 Y2 (q_setMode M 0 p1 p2 p3)) := by
  obtain ⟨T, hT1, hT2, hr, hn⟩ := id h.1
  have c : ¬ s_X11_in (0 : Int32).toInt64 0 1 = 0 := by decide
  have e1 : s_X11_in p1.toInt64 0 2 = s_X10_isWithin p1 0 2 := inW (kE.lit (a := 0) (x := 0) (n := 0) (by decide) (by decide)) (kE.lit (a := 2) (x := 2) (n := 2) (by decide) (by decide))
  have e2 : s_X11_in p2.toInt64 1 100 = s_X10_isWithin p2 1 100 := inW (kE.lit (a := 1) (x := 1) (n := 1) (by decide) (by decide)) (kE.lit (a := 100) (x := 100) (n := 100) (by decide) (by decide))
  have e3 : s_X11_in p3.toInt64 0 50 = s_X10_isWithin p3 0 50 := inW (kE.lit (a := 0) (x := 0) (n := 0) (by decide) (by decide)) (kE.lit (a := 50) (x := 50) (n := 50) (by decide) (by decide))
  by_cases v1 : s_X10_isWithin p1 0 2 = 0
  · refine lSt_t (by decide) (by decide) (w_setMode_0 l hl0 D cI cJ cO z b o u X Y fo p1 p2 p3 v1) rfl (by decide) ?_ h
    unfold q_setMode s_X11_setMode s_X11_setMode_2 s_X11_refuse
    rw [if_neg c, if_pos (e1.trans v1)]
  · have c1 : ¬ s_X11_in p1.toInt64 0 2 = 0 := by rw [e1]; exact v1
    by_cases v2 : s_X10_isWithin p2 1 100 = 0
    · refine lSt_t (by decide) (by decide) (w_setMode_1 l hl0 D cI cJ cO z b o u X Y fo p1 p2 p3 v1 v2) rfl (by decide) ?_ h
      unfold q_setMode s_X11_setMode s_X11_setMode_3 s_X11_refuse
      rw [if_neg c, if_neg c1, if_pos (e2.trans v2)]
    · have c2 : ¬ s_X11_in p2.toInt64 1 100 = 0 := by rw [e2]; exact v2
      by_cases v3 : s_X10_isWithin p3 0 50 = 0
      · refine lSt_t (by decide) (by decide) (w_setMode_2 l hl0 D cI cJ cO z b o u X Y fo p1 p2 p3 v1 v2 v3) rfl (by decide) ?_ h
        unfold q_setMode s_X11_setMode s_X11_setMode_4 s_X11_refuse
        rw [if_neg c, if_neg c1, if_neg c2, if_pos (e3.trans v3)]
      · have c3 : ¬ s_X11_in p3.toInt64 0 50 = 0 := by rw [e3]; exact v3
        have b1 := wi_yes v1
        have b2 := wi_yes v2
        have b3 := wi_yes v3
        have x1 : kE p1.toInt64 p1 0 2 := kE.up ⟨b1.1, b1.2⟩
        have x2 : kE p2.toInt64 p2 1 100 := kE.up ⟨b2.1, b2.2⟩
        have x3 : kE p3.toInt64 p3 0 50 := kE.up ⟨b3.1, b3.2⟩
        have k := (((hr.sel 2).set2 17 (by decide) (by decide) rfl x1 (by decide) (Int.le_refl _)).set2 19 (by decide) (by decide) rfl x2 (by decide) (Int.le_refl _)).set2 21 (by decide) (by decide) rfl x3 (by decide) (Int.le_refl _)
        have hq : s_X11_setMode M.1 M.2.2.1 M.2.1 0 p1 p2 p3 = ((M.2.1 17).toInt32, (s_X11_save (upd M.1 7 0) M.2.2.1 M.2.1).1, (s_X11_save (upd M.1 7 0) M.2.2.1 M.2.1).2, vp_updL (vp_updL (vp_updL M.2.1 17 p1.toInt64) 19 p2.toInt64) 21 p3.toInt64) := by
          unfold s_X11_setMode s_X11_setMode_5
          rw [if_neg c, if_neg c1, if_neg c2, if_neg c3]
          rfl
        refine lSt_s h (F := 7) (L := 153) (by decide) (by decide) (fun ki a1 a2 a3 a4 => w_setMode_3 l hl0 D cI cJ cO z b o u X Y fo ki p1 p2 p3 a1 a2 a3 a4 v1 v2 v3) (by unfold q_setMode; rw [hq]) rfl rfl rfl ?_ ?_
        · refine kSt.of hT1 hT2 (hr.e 32 (by decide)).eq k rfl (hn.cg (Int.le_refl _) (fun i hi => upnL (by omega) (upnL (by omega) (upnL (by omega) rfl))) (hr.e 43 (by decide)).kinL.2)
        · refine congrArg Int32.toInt64 ?_
          have a2 : a_setMode M 0 p1 p2 p3 = (M.2.1 17).toInt32 := by unfold a_setMode; rw [hq]
          rw [a2, (hr.e 17 (by decide)).back]
          rfl
theorem ok_setMode_1 {l : Launch} (hl0 : l.stackTraces = false) (D : va_G) (cI cJ cO : ClassId) (z : zT) {X : kXS} {Y : kTS} {M : kMS} (b o : Nat) (u : Nat → Nat) (fo : Nat → Int64) (p1 : Int32) (p2 : Int32) (p3 : Int32) (h : rR X Y M) : lStep l D cI cJ cO z yL_setMode cL_setMode 7 [(0, 14, 17, 13), (0, 14, 21, 15)] [.ref b, .int 1, .int p1, .int p2, .int p3, .ref o] b o u X Y fo (a_setMode M 1 p1 p2 p3) ((q_setMode M 1 p1 p2 p3).1 7) (fun X2 Y2 => rR X2 Y2 (q_setMode M 1 p1 p2 p3)) := by
  obtain ⟨T, hT1, hT2, hr, hn⟩ := id h.1
  have c : ¬ s_X11_in (1 : Int32).toInt64 0 1 = 0 := by decide
  have e1 : s_X11_in p1.toInt64 0 2 = s_X10_isWithin p1 0 2 := inW (kE.lit (a := 0) (x := 0) (n := 0) (by decide) (by decide)) (kE.lit (a := 2) (x := 2) (n := 2) (by decide) (by decide))
  have e2 : s_X11_in p2.toInt64 1 100 = s_X10_isWithin p2 1 100 := inW (kE.lit (a := 1) (x := 1) (n := 1) (by decide) (by decide)) (kE.lit (a := 100) (x := 100) (n := 100) (by decide) (by decide))
  have e3 : s_X11_in p3.toInt64 0 50 = s_X10_isWithin p3 0 50 := inW (kE.lit (a := 0) (x := 0) (n := 0) (by decide) (by decide)) (kE.lit (a := 50) (x := 50) (n := 50) (by decide) (by decide))
  by_cases v1 : s_X10_isWithin p1 0 2 = 0
  · refine lSt_t (by decide) (by decide) (w_setMode_4 l hl0 D cI cJ cO z b o u X Y fo p1 p2 p3 v1) rfl (by decide) ?_ h
    unfold q_setMode s_X11_setMode s_X11_setMode_2 s_X11_refuse
    rw [if_neg c, if_pos (e1.trans v1)]
  · have c1 : ¬ s_X11_in p1.toInt64 0 2 = 0 := by rw [e1]; exact v1
    by_cases v2 : s_X10_isWithin p2 1 100 = 0
    · refine lSt_t (by decide) (by decide) (w_setMode_5 l hl0 D cI cJ cO z b o u X Y fo p1 p2 p3 v1 v2) rfl (by decide) ?_ h
      unfold q_setMode s_X11_setMode s_X11_setMode_3 s_X11_refuse
      rw [if_neg c, if_neg c1, if_pos (e2.trans v2)]
    · have c2 : ¬ s_X11_in p2.toInt64 1 100 = 0 := by rw [e2]; exact v2
      by_cases v3 : s_X10_isWithin p3 0 50 = 0
      · refine lSt_t (by decide) (by decide) (w_setMode_6 l hl0 D cI cJ cO z b o u X Y fo p1 p2 p3 v1 v2 v3) rfl (by decide) ?_ h
        unfold q_setMode s_X11_setMode s_X11_setMode_4 s_X11_refuse
        rw [if_neg c, if_neg c1, if_neg c2, if_pos (e3.trans v3)]
      · have c3 : ¬ s_X11_in p3.toInt64 0 50 = 0 := by rw [e3]; exact v3
        have b1 := wi_yes v1
        have b2 := wi_yes v2
        have b3 := wi_yes v3
        have x1 : kE p1.toInt64 p1 0 2 := kE.up ⟨b1.1, b1.2⟩
        have x2 : kE p2.toInt64 p2 1 100 := kE.up ⟨b2.1, b2.2⟩
        have x3 : kE p3.toInt64 p3 0 50 := kE.up ⟨b3.1, b3.2⟩
        have k := (((hr.sel 3).set2 18 (by decide) (by decide) rfl x1 (by decide) (Int.le_refl _)).set2 20 (by decide) (by decide) rfl x2 (by decide) (Int.le_refl _)).set2 22 (by decide) (by decide) rfl x3 (by decide) (Int.le_refl _)
        have hq : s_X11_setMode M.1 M.2.2.1 M.2.1 1 p1 p2 p3 = ((M.2.1 18).toInt32, (s_X11_save (upd M.1 7 0) M.2.2.1 M.2.1).1, (s_X11_save (upd M.1 7 0) M.2.2.1 M.2.1).2, vp_updL (vp_updL (vp_updL M.2.1 18 p1.toInt64) 20 p2.toInt64) 22 p3.toInt64) := by
          unfold s_X11_setMode s_X11_setMode_5
          rw [if_neg c, if_neg c1, if_neg c2, if_neg c3]
          rfl
        refine lSt_s h (F := 7) (L := 153) (by decide) (by decide) (fun ki a1 a2 a3 a4 => w_setMode_7 l hl0 D cI cJ cO z b o u X Y fo ki p1 p2 p3 a1 a2 a3 a4 v1 v2 v3) (by unfold q_setMode; rw [hq]) rfl rfl rfl ?_ ?_
        · refine kSt.of hT1 hT2 (hr.e 32 (by decide)).eq k rfl (hn.cg (Int.le_refl _) (fun i hi => upnL (by omega) (upnL (by omega) (upnL (by omega) rfl))) (hr.e 43 (by decide)).kinL.2)
        · refine congrArg Int32.toInt64 ?_
          have a2 : a_setMode M 1 p1 p2 p3 = (M.2.1 18).toInt32 := by unfold a_setMode; rw [hq]
          rw [a2, (hr.e 18 (by decide)).back]
          rfl
theorem ok_setMode {l : Launch} (hl0 : l.stackTraces = false) (D : va_G) (cI cJ cO : ClassId) (z : zT) {X : kXS} {Y : kTS} {M : kMS} (b o : Nat) (u : Nat → Nat) (fo : Nat → Int64) (p0 : Int32) (p1 : Int32) (p2 : Int32) (p3 : Int32) (h : rR X Y M) : lStep l D cI cJ cO z yL_setMode cL_setMode 7 [(0, 14, 17, 13), (0, 14, 21, 15)] [.ref b, .int p0, .int p1, .int p2, .int p3, .ref o] b o u X Y fo (a_setMode M p0 p1 p2 p3) ((q_setMode M p0 p1 p2 p3).1 7) (fun X2 Y2 => rR X2 Y2 (q_setMode M p0 p1 p2 p3)) := by
  have e : s_X11_in p0.toInt64 0 1 = s_X10_isWithin p0 0 1 := inW (kE.lit (a := 0) (x := 0) (n := 0) (by decide) (by decide)) (kE.lit (a := 1) (x := 1) (n := 1) (by decide) (by decide))
  have e2 : (s_X10_isWithin p0 0 1 = 0) = (p0 < 0 ∨ 2 ≤ p0) := wi_eq (by decide) (by decide)
  by_cases v : p0 < 0 ∨ 2 ≤ p0
  · refine lSt_t (by decide) (by decide) (w_setMode_8 l hl0 D cI cJ cO z b o u X Y fo p0 p1 p2 p3 v) rfl (by decide) ?_ h
    unfold q_setMode s_X11_setMode s_X11_setMode_1 s_X11_refuse
    rw [if_pos (by rw [e, e2]; exact v)]
  · have w := wi_yes (p := p0) (x := 0) (y := 1) (by rw [e2]; exact v)
    have w1 : 0 ≤ p0.toInt := w.1
    have w2 : p0.toInt ≤ 1 := w.2
    by_cases c : p0.toInt = 0
    · have e0 : p0 = 0 := Int32.toInt_inj.mp c
      subst e0
      exact ok_setMode_0 hl0 D cI cJ cO z b o u fo p1 p2 p3 h
    · have e0 : p0 = 1 := Int32.toInt_inj.mp (by show p0.toInt = 1; omega)
      subst e0
      exact ok_setMode_1 hl0 D cI cJ cO z b o u fo p1 p2 p3 h
theorem tg_eq (p0 p1 : Int32) : (s_X10_isTarget p0 p1 = 0) = (s_X11_isTemperature p0 = 0 ∨ s_X11_isHumidity p1 = 0) := by
  have e1 : s_X11_isTemperature p0 = s_X10_isTargetTemperature p0 := inW (kE.lit (a := -400) (x := -400) (n := -400) (by decide) (by decide)) (kE.lit (a := 1800) (x := 1800) (n := 1800) (by decide) (by decide))
  have e2 : s_X11_isHumidity p1 = s_X10_isWithin p1 0 1000 := inW (kE.lit (a := 0) (x := 0) (n := 0) (by decide) (by decide)) (kE.lit (a := 1000) (x := 1000) (n := 1000) (by decide) (by decide))
  rw [e1, e2]
  unfold s_X10_isTarget
  by_cases c1 : s_X10_isTargetTemperature p0 = 0
  · rw [if_pos c1]
    exact propext ⟨fun _ => Or.inl c1, fun _ => rfl⟩
  · rw [if_neg c1]
    by_cases c2 : s_X10_isWithin p1 0 1000 = 0
    · rw [if_pos c2]
      exact propext ⟨fun _ => Or.inr c2, fun _ => rfl⟩
    · rw [if_neg c2]
      exact propext ⟨fun z => absurd z (by decide), fun z => (z.elim c1 c2).elim⟩
theorem ok_setPoints {l : Launch} (hl0 : l.stackTraces = false) (D : va_G) (cI cJ cO : ClassId) (z : zT) {X : kXS} {Y : kTS} {M : kMS} (b o : Nat) (u : Nat → Nat) (fo : Nat → Int64) (p0 : Int32) (p1 : Int32) (h : rR X Y M) : lStep l D cI cJ cO z yL_setPoints cL_setPoints 5 [(0, 10, 13, 15), (0, 10, 17, 24)] [.ref b, .int p0, .int p1, .ref o] b o u X Y fo (a_setPoints M p0 p1) ((q_setPoints M p0 p1).1 7) (fun X2 Y2 => rR X2 Y2 (q_setPoints M p0 p1)) := by
  obtain ⟨T, hT1, hT2, hr, hn⟩ := id h.1
  have et := tg_eq p0 p1
  by_cases v : s_X10_isTarget p0 p1 = 0
  · refine lSt_t (by decide) (by decide) (w_setPoints_0 l hl0 D cI cJ cO z b o u X Y fo p0 p1 v) rfl (by decide) ?_ h
    unfold q_setPoints s_X11_setPoints s_X11_setPoints_1 s_X11_setPoints_2 s_X11_refuse
    by_cases c1 : s_X11_isTemperature p0 = 0
    · rw [if_pos c1]
    · rw [if_neg c1, if_pos ((et ▸ v : s_X11_isTemperature p0 = 0 ∨ s_X11_isHumidity p1 = 0).resolve_left c1)]
  · have c1 : ¬ s_X11_isTemperature p0 = 0 := fun z => v (pT et (Or.inl z))
    have c2 : ¬ s_X11_isHumidity p1 = 0 := fun z => v (pT et (Or.inr z))
    have er := hr.runs (upd M.1 7 0)
    by_cases v2 : s_X4_isRunning (X.1 5) = 0
    · have c3 : s_X11_runs (upd M.1 7 0) M.2.1 = 0 := er.trans v2
      have e1 : s_X11_isTemperature p0 = s_X10_isWithin p0 (-400) 1800 := inW (kE.lit (a := -400) (x := -400) (n := -400) (by decide) (by decide)) (kE.lit (a := 1800) (x := 1800) (n := 1800) (by decide) (by decide))
      have e2 : s_X11_isHumidity p1 = s_X10_isWithin p1 0 1000 := inW (kE.lit (a := 0) (x := 0) (n := 0) (by decide) (by decide)) (kE.lit (a := 1000) (x := 1000) (n := 1000) (by decide) (by decide))
      have b1 := wi_yes (by rw [← e1]; exact c1)
      have b2 := wi_yes (by rw [← e2]; exact c2)
      have x1 : kE p0.toInt64 p0 (-400) 1800 := kE.up ⟨b1.1, b1.2⟩
      have x2 : kE p1.toInt64 p1 0 1000 := kE.up ⟨b2.1, b2.2⟩
      have k := ((hr.sel 6).set2 14 (by decide) (by decide) rfl x1 (by decide) (show (1800 : Int) ≤ 2000 by decide)).set2 15 (by decide) (by decide) rfl x2 (by decide) (Int.le_refl _)
      have hq : s_X11_setPoints M.1 M.2.1 M.2.2.1 p0 p1 = ((M.2.1 14).toInt32, (s_X11_save (upd M.1 7 0) M.2.2.1 M.2.1).1, vp_updL (vp_updL M.2.1 14 p0.toInt64) 15 p1.toInt64, (s_X11_save (upd M.1 7 0) M.2.2.1 M.2.1).2) := by
        unfold s_X11_setPoints s_X11_setPoints_3
        rw [if_neg c1, if_neg c2, if_pos c3]
      refine lSt_s h (F := 7) (L := 150) (by decide) (by decide) (fun ki a1 a2 a3 a4 => w_setPoints_2 l hl0 D cI cJ cO z b o u X Y fo ki p0 p1 a1 a2 a3 a4 v v2) (by unfold q_setPoints; rw [hq]) rfl rfl rfl ?_ ?_
      · exact kSt.of hT1 hT2 (hr.e 32 (by decide)).eq k rfl (hn.cg (Int.le_refl _) (fun i hi => upnL (by omega) (upnL (by omega) rfl)) (hr.e 43 (by decide)).kinL.2)
      · refine congrArg Int32.toInt64 ?_
        have a2 : a_setPoints M p0 p1 = (M.2.1 14).toInt32 := by unfold a_setPoints; rw [hq]
        rw [a2, (hr.e 14 (by decide)).back]
        rfl
    · have c3 : ¬ s_X11_runs (upd M.1 7 0) M.2.1 = 0 := by rw [er]; exact v2
      refine lSt_t (by decide) (by decide) (w_setPoints_1 l hl0 D cI cJ cO z b o u X Y fo p0 p1 v v2) rfl (by decide) ?_ h
      unfold q_setPoints s_X11_setPoints s_X11_setPoints_4 s_X11_refuse
      rw [if_neg c1, if_neg c2, if_neg c3]
theorem ok_setCycles {l : Launch} (hl0 : l.stackTraces = false) (D : va_G) (cI cJ cO : ClassId) (z : zT) {X : kXS} {Y : kTS} {M : kMS} (b o : Nat) (u : Nat → Nat) (fo : Nat → Int64) (p0 : Int32) (h : rR X Y M) : lStep l D cI cJ cO z yL_setCycles cL_setCycles 4 [(0, 9, 12, 15), (0, 9, 15, 24)] [.ref b, .int p0, .ref o] b o u X Y fo (a_setCycles M p0) ((q_setCycles M p0).1 7) (fun X2 Y2 => rR X2 Y2 (q_setCycles M p0)) := by
  obtain ⟨T, hT1, hT2, hr, hn⟩ := id h.1
  have e1 : s_X11_in p0.toInt64 1 20 = s_X10_isWithin p0 1 20 := inW (kE.lit (a := 1) (x := 1) (n := 1) (by decide) (by decide)) (kE.lit (a := 20) (x := 20) (n := 20) (by decide) (by decide))
  have er := hr.runs (upd M.1 7 0)
  by_cases v : s_X10_isWithin p0 1 20 = 0
  · refine lSt_t (by decide) (by decide) (w_setCycles_0 l hl0 D cI cJ cO z b o u X Y fo p0 v) rfl (by decide) ?_ h
    unfold q_setCycles s_X11_setCycles s_X11_setCycles_1 s_X11_refuse
    rw [if_pos (e1.trans v)]
  · have c1 : ¬ s_X11_in p0.toInt64 1 20 = 0 := by rw [e1]; exact v
    by_cases v2 : s_X4_isRunning (X.1 5) = 0
    · have c3 : s_X11_runs (upd M.1 7 0) M.2.1 = 0 := er.trans v2
      have b1 := wi_yes v
      have x1 : kE p0.toInt64 p0 1 20 := kE.up ⟨b1.1, b1.2⟩
      have k := (hr.sel 0).set2 44 (by decide) (by decide) rfl x1 (by decide) (Int.le_refl _)
      have hq : s_X11_setCycles M.1 M.2.1 M.2.2.1 p0 = ((M.2.1 44).toInt32, (s_X11_save (upd M.1 7 0) M.2.2.1 M.2.1).1, vp_updL M.2.1 44 p0.toInt64, (s_X11_save (upd M.1 7 0) M.2.2.1 M.2.1).2) := by
        unfold s_X11_setCycles s_X11_setCycles_2
        rw [if_neg c1, if_pos c3]
      refine lSt_s h (F := 7) (L := 149) (by decide) (by decide) (fun ki a1 a2 a3 a4 => w_setCycles_2 l hl0 D cI cJ cO z b o u X Y fo ki p0 a1 a2 a3 a4 v v2) (by unfold q_setCycles; rw [hq]) rfl rfl rfl ?_ ?_
      · exact kSt.of hT1 hT2 (hr.e 32 (by decide)).eq k rfl (hn.cg (Int.le_refl _) (fun i hi => upnL (by omega) rfl) (hr.e 43 (by decide)).kinL.2)
      · refine congrArg Int32.toInt64 ?_
        have a2 : a_setCycles M p0 = (M.2.1 44).toInt32 := by unfold a_setCycles; rw [hq]
        rw [a2, (hr.e 44 (by decide)).back]
        rfl
    · have c3 : ¬ s_X11_runs (upd M.1 7 0) M.2.1 = 0 := by rw [er]; exact v2
      refine lSt_t (by decide) (by decide) (w_setCycles_1 l hl0 D cI cJ cO z b o u X Y fo p0 v v2) rfl (by decide) ?_ h
      unfold q_setCycles s_X11_setCycles s_X11_setCycles_3 s_X11_refuse
      rw [if_neg c1, if_neg c3]
theorem bz_kE (p : Int32) : kE (if bz p = 0 then 0 else 1) (bz p) 0 1 := by
  rcases kb_bz p with e | e
  · rw [e]
    exact kE0.wk (by decide) (by decide)
  · rw [e]
    exact kE1.wk (by decide) (by decide)
theorem bz_w {T : Int} {S : Nat → Nat → Int32} {j : Int64} {w : Nat → Int64} (h : kRel T S j w) (k : Nat) (hk : k < 45) (hb : kb (rS S k)) : (if w k = 1 then (1 : Int32) else 0) = rS S k := by
  have e := (h.e k hk).eq
  rcases hb with y | y
  · rw [y] at e
    rw [e, y]
    decide
  · rw [y] at e
    rw [e, y]
    decide
theorem ok_hold {l : Launch} (hl0 : l.stackTraces = false) (D : va_G) (cI cJ cO : ClassId) (z : zT) {X : kXS} {Y : kTS} {M : kMS} (b o : Nat) (u : Nat → Nat) (fo : Nat → Int64) (p0 : Int32) (h : rR X Y M) : lStep l D cI cJ cO z yL_hold cL_hold 4 [(0, 9, 12, 24)] [.ref b, .int (bz p0), .ref o] b o u X Y fo (a_hold M (bz p0)) ((q_hold M (bz p0)).1 7) (fun X2 Y2 => rR X2 Y2 (q_hold M (bz p0))) := by
  obtain ⟨T, hT1, hT2, hr, hn⟩ := id h.1
  have er := hr.runs (upd M.1 7 0)
  by_cases v : s_X4_isRunning (X.1 5) = 0
  · refine lSt_t (by decide) (by decide) (w_hold_0 l hl0 D cI cJ cO z b o u X Y fo (bz p0) v) rfl (by decide) ?_ h
    unfold q_hold s_X11_hold s_X11_hold_1 s_X11_refuse
    rw [if_pos (er.trans v)]
  · have c1 : ¬ s_X11_runs (upd M.1 7 0) M.2.1 = 0 := by rw [er]; exact v
    have eb : (if M.2.1 34 = 1 then (1 : Int32) else 0) = X.1 5 1 := bz_w hr 34 (by decide) h.1.sb.1
    by_cases v2 : X.1 5 1 = bz p0
    · refine lSt_t (by decide) (by decide) (w_hold_1 l hl0 D cI cJ cO z b o u X Y fo (bz p0) v v2) rfl (by decide) ?_ h
      unfold q_hold s_X11_hold s_X11_hold_5 s_X11_hold_2 s_X11_refuse
      rw [if_neg c1, eb, if_pos v2]
    · have k := (hr.sel 5).set2 34 (by decide) (by decide) rfl (bz_kE p0) (by decide) (Int.le_refl _)
      have hq : s_X11_hold M.1 M.2.1 M.2.2.1 (bz p0) = ((M.2.1 33).toInt32, (s_X11_save (upd M.1 7 0) M.2.2.1 M.2.1).1, vp_updL M.2.1 34 (if bz p0 = 0 then 0 else 1), (s_X11_save (upd M.1 7 0) M.2.2.1 M.2.1).2) := by
        unfold s_X11_hold s_X11_hold_5 s_X11_hold_4 s_X11_hold_3
        rw [if_neg c1, eb, if_neg v2]
      refine lSt_s h (F := 7) (L := 148) (by decide) (by decide) (fun ki a1 a2 a3 a4 => w_hold_2 l hl0 D cI cJ cO z b o u X Y fo ki (bz p0) a1 a2 a3 a4 (kb_bz p0) v v2) (by unfold q_hold; rw [hq]) rfl rfl rfl ?_ ?_
      · exact kSt.of hT1 hT2 (hr.e 32 (by decide)).eq k rfl (hn.cg (Int.le_refl _) (fun i hi => upnL (by omega) rfl) (hr.e 43 (by decide)).kinL.2)
      · refine congrArg Int32.toInt64 ?_
        have a2 : a_hold M (bz p0) = (M.2.1 33).toInt32 := by unfold a_hold; rw [hq]
        rw [a2, (hr.e 33 (by decide)).back]
        rfl
