/-! the law's steps that write into the trail -/
theorem kRel.cgX {T : Int} {S S2 : Nat → Nat → Int32} {j : Int64} {w : Nat → Int64} (h : kRel T S j w) (e : ∀ a : Nat, a < 26 → a ≠ 7 → a ≠ 8 → S2 a = S a) : kRel T S2 j w :=
  h.cg (fun k hk => ⟨by unfold rS; rw [e _ (by have := rA_le k hk; omega) (by have := rA_le k hk; omega) (by have := rA_le k hk; omega)], rfl⟩) (fun a h1 ha => e a ha (by omega) (by omega)) (fun _ _ _ => rfl) rfl
def tr7 (S : Nat → Nat → Int32) (a : Nat) (F A19 A20 A21 A22 A23 A24 : Nat → Int32) : Nat → Nat → Int32 := va_up (va_up (va_up (va_up (va_up (va_up (va_up S a F) 19 A19) 20 A20) 21 A21) 22 A22) 23 A23) 24 A24
theorem kRel.trb7 {T : Int} {S E : Nat → Nat → Int32} {j : Int64} {w : Nat → Int64} {a : Nat} {F : Nat → Int32} (h : kRel T (va_up E a F) j w) (ha : a < 19) (hE : ∀ b : Nat, b < 19 ∨ b = 25 → E b = S b) : kRel T (tr7 S a F (E 19) (E 20) (E 21) (E 22) (E 23) (E 24)) j w := by
  refine h.cgA (fun c hc => ?_)
  unfold tr7
  by_cases c24 : c = 24
  · subst c24
    rw [va_s, va_n (show (24 : Nat) ≠ a by omega)]
  rw [va_n c24]
  by_cases c23 : c = 23
  · subst c23
    rw [va_s, va_n (show (23 : Nat) ≠ a by omega)]
  rw [va_n c23]
  by_cases c22 : c = 22
  · subst c22
    rw [va_s, va_n (show (22 : Nat) ≠ a by omega)]
  rw [va_n c22]
  by_cases c21 : c = 21
  · subst c21
    rw [va_s, va_n (show (21 : Nat) ≠ a by omega)]
  rw [va_n c21]
  by_cases c20 : c = 20
  · subst c20
    rw [va_s, va_n (show (20 : Nat) ≠ a by omega)]
  rw [va_n c20]
  by_cases c19 : c = 19
  · subst c19
    rw [va_s, va_n (show (19 : Nat) ≠ a by omega)]
  rw [va_n c19]
  by_cases ca : c = a
  · rw [ca, va_s, va_s]
  · rw [va_n ca, va_n ca, hE c (by omega)]
theorem tr7_0 {S : Nat → Nat → Int32} {a : Nat} {F A19 A20 A21 A22 A23 A24 : Nat → Int32} (ha : a ≠ 0) : tr7 S a F A19 A20 A21 A22 A23 A24 0 = S 0 := by
  unfold tr7
  rw [va_n (show (0 : Nat) ≠ 24 by decide), va_n (show (0 : Nat) ≠ 23 by decide), va_n (show (0 : Nat) ≠ 22 by decide), va_n (show (0 : Nat) ≠ 21 by decide), va_n (show (0 : Nat) ≠ 20 by decide), va_n (show (0 : Nat) ≠ 19 by decide), va_n ha.symm]
theorem ok_door {l : Launch} (hl0 : l.stackTraces = false) (D : va_G) (cI cJ cO : ClassId) (z : zT) {X : kXS} {Y : kTS} {M : kMS} (b o : Nat) (u : Nat → Nat) (fo : Nat → Int64) (p0 : Int32) (h : rR X Y M) : lStep l D cI cJ cO z yL_door cL_door 4 [(0, 9, 12, 24)] [.ref b, .int (bz p0), .ref o] b o u X Y fo (a_door M (bz p0)) ((q_door M (bz p0)).1 7) (fun X2 Y2 => rR X2 Y2 (q_door M (bz p0))) := by
  obtain ⟨T, hT1, hT2, hr, hn⟩ := id h.1
  have eb : (if M.2.1 16 = 1 then (1 : Int32) else 0) = X.1 6 4 := bz_w hr 16 (by decide) h.1.sb.2.1
  by_cases v : X.1 6 4 = bz p0
  · refine lSt_t (by decide) (by decide) (w_door_0 l hl0 D cI cJ cO z b o u X Y fo (bz p0) v) rfl (by decide) ?_ h
    unfold q_door s_X11_door s_X11_door_6 s_X11_door_1 s_X11_refuse
    rw [eb, if_pos v]
  · have hnum : (0 : Int64) = (0 : Int32).toInt64 := by decide
    have hk : (1000 * (if bz p0 = 0 then (8 : Int32) else 7)).toInt64 = 1000 * (if bz p0 = 0 then (8 : Int32) else 7).toInt64 := by
      rcases kb_bz p0 with y | y
      · rw [y]; decide
      · rw [y]; decide
    have k := ((hr.sel 6).set2 16 (by decide) (by decide) rfl (bz_kE p0) (by decide) (Int.le_refl _)).enterC (by decide) (s_X11_save (upd M.1 7 0) M.2.2.1 M.2.1).1 (p0 := if bz p0 = 0 then 8 else 7) (n := 0) (b := 0) hk hnum
    have h46 : kInL (vp_updL M.2.1 16 (if bz p0 = 0 then 0 else 1) 46) 0 24 := by
      have e : vp_updL M.2.1 16 (if bz p0 = 0 then 0 else 1) 46 = M.2.1 46 := upnL (by decide) rfl
      rw [e]
      exact hr.2.2.2.1.1.many (by decide)
    have fe := fr_X11_enter (s_X11_save (upd M.1 7 0) M.2.2.1 M.2.1).1 (vp_updL M.2.1 16 (if bz p0 = 0 then 0 else 1)) (if bz p0 = 0 then 8 else 7) 0 h46
    have e1 := wr_eq X.1 X.2.1 (if bz p0 = 0 then 8 else 7) 0
    have Elo : ∀ a : Nat, a < 19 ∨ a = 25 → entS X.1 (if bz p0 = 0 then 8 else 7) 0 a = X.1 a := fun a ha => entS_lo ha
    have hX : (n_door_1 X (bz p0)).1 = tr7 X.1 6 (upd (X.1 6) 4 (bz p0)) (entS X.1 (if bz p0 = 0 then 8 else 7) 0 19) (entS X.1 (if bz p0 = 0 then 8 else 7) 0 20) (entS X.1 (if bz p0 = 0 then 8 else 7) 0 21) (entS X.1 (if bz p0 = 0 then 8 else 7) 0 22) (entS X.1 (if bz p0 = 0 then 8 else 7) 0 23) (entS X.1 (if bz p0 = 0 then 8 else 7) 0 24) := by
      unfold n_door_1 s_X10_door s_X10_door_2 s_X10_door_1 tr7
      rw [e1]
    have hJ : (n_door_1 X (bz p0)).2.1 = 31 * X.2.1 + (1000 * (if bz p0 = 0 then (8 : Int32) else 7)).toInt64 + (0 : Int32).toInt64 := by
      unfold n_door_1 s_X10_door s_X10_door_2 s_X10_door_1
      rw [e1]
    have hq : s_X11_door M.1 M.2.1 M.2.2.1 (bz p0) = ((M.2.1 32).toInt32, (s_X11_save (upd M.1 7 0) M.2.2.1 M.2.1).1, s_X11_enter (s_X11_save (upd M.1 7 0) M.2.2.1 M.2.1).1 (vp_updL M.2.1 16 (if bz p0 = 0 then 0 else 1)) (if bz p0 = 0 then 8 else 7) 0, (s_X11_save (upd M.1 7 0) M.2.2.1 M.2.1).2) := by
      unfold s_X11_door s_X11_door_6 s_X11_door_5 s_X11_door_4 s_X11_door_3 s_X11_door_2
      rw [eb, if_neg v]
    refine lSt_s h (F := 7) (L := 148) (by decide) (by decide) (fun ki a1 a2 a3 a4 => w_door_1 l hl0 D cI cJ cO z b o u X Y fo ki (bz p0) a1 a2 a3 a4 (kb_bz p0) v) (by unfold q_door; rw [hq]) rfl rfl rfl ?_ ?_
    · rw [hX, hJ]
      generalize entS X.1 (if bz p0 = 0 then 8 else 7) 0 = E at k Elo
      generalize s_X11_enter (s_X11_save (upd M.1 7 0) M.2.2.1 M.2.1).1 (vp_updL M.2.1 16 (if bz p0 = 0 then 0 else 1)) (if bz p0 = 0 then 8 else 7) 0 = w2 at k fe
      refine kSt.of hT1 hT2 (hr.e 32 (by decide)).eq (k.trb7 (by decide) Elo) (by rw [tr7_0 (by decide)]) (hn.cg (Int.le_refl _) (fun i hi => (fe i (by omega)).trans (upnL (by omega) rfl)) (hr.e 43 (by decide)).kinL.2)
    · refine congrArg Int32.toInt64 ?_
      have a2 : a_door M (bz p0) = (M.2.1 32).toInt32 := by unfold a_door; rw [hq]
      have a1 : r_door_1 X (bz p0) = X.1 0 0 := by
        unfold r_door_1 s_X10_door s_X10_door_2 s_X10_door_1
        rw [e1]
      rw [a1, a2, (hr.e 32 (by decide)).back]
      rfl
theorem ok_stop {l : Launch} (hl0 : l.stackTraces = false) (D : va_G) (cI cJ cO : ClassId) (z : zT) {X : kXS} {Y : kTS} {M : kMS} (b o : Nat) (u : Nat → Nat) (fo : Nat → Int64) (h : rR X Y M) : lStep l D cI cJ cO z yL_stop cL_stop 3 [(0, 8, 11, 24)] [.ref b, .ref o] b o u X Y fo (a_stop M) ((q_stop M).1 7) (fun X2 Y2 => rR X2 Y2 (q_stop M)) := by
  obtain ⟨T, hT1, hT2, hr, hn⟩ := id h.1
  have er := hr.runs (upd M.1 7 0)
  by_cases v : s_X4_isRunning (X.1 5) = 0
  · refine lSt_t (by decide) (by decide) (w_stop_1 l hl0 D cI cJ cO z b o u X Y fo v) rfl (by decide) ?_ h
    unfold q_stop s_X11_stop s_X11_stop_1 s_X11_refuse
    rw [if_pos (er.trans v)]
  · have c1 : ¬ s_X11_runs (upd M.1 7 0) M.2.1 = 0 := by rw [er]; exact v
    have e35 : kE (M.2.1 35) (X.1 5 2) 0 11 := hr.e 35 (by decide)
    have k0 := ((hr.sel 5).set2 33 (by decide) (by decide) rfl kE0 (by decide) (show (0 : Int) ≤ 4 by decide)).set2 34 (by decide) (by decide) rfl kE0 (by decide) (show (0 : Int) ≤ 1 by decide)
    have h46 := k0.2.2.2.1.1.many (by decide)
    have k := k0.enterC (by decide) (s_X11_save (upd M.1 7 0) M.2.2.1 M.2.1).1 (p0 := 6) (n := X.1 5 2) (b := M.2.1 35) (by decide) e35.eq
    have fe := fr_X11_enter (s_X11_save (upd M.1 7 0) M.2.2.1 M.2.1).1 (vp_updL (vp_updL M.2.1 33 0) 34 0) 6 (M.2.1 35) h46
    have e1 := wr_eq X.1 X.2.1 6 (X.1 5 2)
    have Elo : ∀ a : Nat, a < 19 ∨ a = 25 → entS X.1 6 (X.1 5 2) a = X.1 a := fun a ha => entS_lo ha
    have hX : (n_stop_0 X).1 = tr7 X.1 5 (upd (upd (X.1 5) 0 0) 1 0) (entS X.1 6 (X.1 5 2) 19) (entS X.1 6 (X.1 5 2) 20) (entS X.1 6 (X.1 5 2) 21) (entS X.1 6 (X.1 5 2) 22) (entS X.1 6 (X.1 5 2) 23) (entS X.1 6 (X.1 5 2) 24) := by
      unfold n_stop_0 s_X10_stop s_X10_stop_2 s_X10_stop_1 s_X4_end tr7
      rw [e1]
    have hJ : (n_stop_0 X).2.1 = 31 * X.2.1 + (1000 * 6 : Int32).toInt64 + (X.1 5 2).toInt64 := by
      unfold n_stop_0 s_X10_stop s_X10_stop_2 s_X10_stop_1
      rw [e1]
    have hq : s_X11_stop M.1 M.2.1 M.2.2.1 = ((M.2.1 35).toInt32, (s_X11_save (upd M.1 7 0) M.2.2.1 M.2.1).1, s_X11_enter (s_X11_save (upd M.1 7 0) M.2.2.1 M.2.1).1 (vp_updL (vp_updL M.2.1 33 0) 34 0) 6 (M.2.1 35), (s_X11_save (upd M.1 7 0) M.2.2.1 M.2.1).2) := by
      unfold s_X11_stop s_X11_stop_3 s_X11_stop_2
      rw [if_neg c1]
    refine lSt_s h (F := 7) (L := 147) (by decide) (by decide) (fun ki a1 a2 a3 a4 => w_stop_0 l hl0 D cI cJ cO z b o u X Y fo ki a1 a2 a3 a4 v) (by unfold q_stop; rw [hq]) rfl rfl rfl ?_ ?_
    · rw [hX, hJ]
      generalize entS X.1 6 (X.1 5 2) = E at k Elo
      generalize s_X11_enter (s_X11_save (upd M.1 7 0) M.2.2.1 M.2.1).1 (vp_updL (vp_updL M.2.1 33 0) 34 0) 6 (M.2.1 35) = w2 at k fe
      show kSt _ _ w2
      have q33 : w2 33 = 0 := (fe 33 (by decide)).trans (upnL (by decide) upsL)
      refine kSt.of hT1 hT2 (hr.e 32 (by decide)).eq (k.trb7 (by decide) Elo) (by rw [tr7_0 (by decide)]) ⟨fun i hi => ?_, fun y => ?_⟩
      · have f43 : w2 43 = M.2.1 43 := (fe 43 (by decide)).trans (upnL (by decide) (upnL (by decide) rfl))
        have h43u : (M.2.1 43).toInt ≤ 12 := (hr.e 43 (by decide)).kinL.2
        rw [f43] at hi
        have fk : ∀ k : Nat, 50 ≤ k → k < 98 → w2 k = M.2.1 k := fun k y1 y2 => (fe k (by omega)).trans (upnL (by omega) (upnL (by omega) rfl))
        rw [fk _ (by omega) (by omega), fk _ (by omega) (by omega)]
        exact hn.1 i hi
      · rw [q33] at y
        exact y.elim (fun z => absurd z (by decide)) (fun z => absurd z (by decide))
    · refine congrArg Int32.toInt64 ?_
      have a2 : a_stop M = (M.2.1 35).toInt32 := by unfold a_stop; rw [hq]
      have a1 : r_stop_0 X = X.1 5 2 := by
        unfold r_stop_0 s_X10_stop s_X10_stop_2 s_X10_stop_1 s_X4_end
        show upd (upd (X.1 5) 0 0) 1 0 2 = _
        exact upn (by decide) (upn (by decide) rfl)
      rw [a1, a2, e35.back]
set_option maxHeartbeats 1000000 in
theorem ok_start {l : Launch} (hl0 : l.stackTraces = false) (D : va_G) (cI cJ cO : ClassId) (z : zT) {X : kXS} {Y : kTS} {M : kMS} (b o : Nat) (u : Nat → Nat) (fo : Nat → Int64) (h : rR X Y M) : lStep l D cI cJ cO z yL_start cL_start 3 [(0, 8, 11, 24)] [.ref b, .ref o] b o u X Y fo (a_start M) ((q_start M).1 7) (fun X2 Y2 => rR X2 Y2 (q_start M)) := by
  obtain ⟨T, hT1, hT2, hr, hn⟩ := id h.1
  have er := hr.runs (upd M.1 7 0)
  by_cases v : s_X4_isRunning (X.1 5) = 0
  · have c1 : s_X11_runs (upd M.1 7 0) M.2.1 = 0 := er.trans v
    have e43 : kE (M.2.1 43) (X.1 4 1) 0 12 := hr.e 43 (by decide)
    have z43 : (M.2.1 43 = 0) = (X.1 4 1 ≤ 0) := by
      refine propext ⟨fun y => Int32.le_iff_toInt_le.mpr ?_, fun y => Int64.toInt_inj.mp ?_⟩
      · rw [← e43.1, y]
        decide
      · have a := Int32.le_iff_toInt_le.mp y
        rw [Int32.toInt_zero] at a
        have b1 := e43.1
        have b2 := e43.2.1
        show (M.2.1 43).toInt = 0
        omega
    by_cases v2 : X.1 4 1 ≤ 0
    · refine lSt_t (by decide) (by decide) (w_start_1 l hl0 D cI cJ cO z b o u X Y fo v v2) rfl (by decide) ?_ h
      unfold q_start s_X11_start s_X11_start_1 s_X11_refuse
      rw [if_pos c1, if_pos (pT z43 v2)]
    · have v2i : 0 < (X.1 4 1).toInt := by
        have a : ¬ (X.1 4 1).toInt ≤ (0 : Int32).toInt := fun z => v2 (Int32.le_iff_toInt_le.mpr z)
        rw [Int32.toInt_zero] at a
        omega
      generalize hsf : s_X11_save (upd M.1 7 0) M.2.2.1 M.2.1 = sf
      have k0 := ((hr.sel 5).set2 34 (by decide) (by decide) rfl kE0 (by decide) (show (0 : Int) ≤ 1 by decide)).set2 36 (by decide) (by decide) rfl kE1 (by decide) (show (1 : Int) ≤ 20 by decide)
      have h46 := k0.2.2.2.1.1.many (by decide)
      have k1 := k0.enterC (by decide) sf.1 (p0 := 1) (n := X.1 4 1) (b := M.2.1 43) (by decide) e43.eq
      have fe := fr_X11_enter sf.1 (vp_updL (vp_updL M.2.1 34 0) 36 1) 1 (M.2.1 43) h46
      have e1 := wr_eq X.1 X.2.1 1 (X.1 4 1)
      have Elo : ∀ a : Nat, a < 19 ∨ a = 25 → entS X.1 1 (X.1 4 1) a = X.1 a := fun a ha => entS_lo ha
      have hq : s_X11_start M.1 M.2.1 M.2.2.1 = ((s_X11_begin sf.1 (s_X11_enter sf.1 (vp_updL (vp_updL M.2.1 34 0) 36 1) 1 (M.2.1 43)) 0 (M.2.1 32) 43).toInt32, sf.1, s_X11_begin sf.1 (s_X11_enter sf.1 (vp_updL (vp_updL M.2.1 34 0) 36 1) 1 (M.2.1 43)) 0 (M.2.1 32), sf.2) := by
        unfold s_X11_start s_X11_start_4 s_X11_start_3 s_X11_start_2
        rw [if_pos c1, if_neg (pTn z43 v2), hsf]
      have hp : n_start_2 X = n_start_2 X := rfl
      generalize hE : entS X.1 1 (X.1 4 1) = E at k1 e1 Elo
      generalize hu : s_X11_enter sf.1 (vp_updL (vp_updL M.2.1 34 0) 36 1) 1 (M.2.1 43) = uu at k1 fe hq
      have hsu : kSg uu := fun i hi => by
        have f43 : uu 43 = M.2.1 43 := (fe 43 (by decide)).trans (upnL (by decide) (upnL (by decide) rfl))
        have h43u : (M.2.1 43).toInt ≤ 12 := e43.kinL.2
        rw [f43] at hi
        have fk : ∀ k : Nat, 50 ≤ k → k < 98 → uu k = M.2.1 k := fun k y1 y2 => (fe k (by omega)).trans (upnL (by omega) (upnL (by omega) rfl))
        rw [fk _ (by omega) (by omega), fk _ (by omega) (by omega)]
        exact hn.1 i hi
      have E4 : E 4 = X.1 4 := Elo 4 (by decide)
      have k2 := kRel.begin (p1 := 1) (F := upd (X.1 5) 1 0) k1 hsu sf.1 (i := 0) (by rw [E4]; exact v2i) (hr.e 32 (by decide))
      have e0 : (nI 0).toInt64 = 0 := by decide
      have eb : s_X11_begin sf.1 uu (nI 0).toInt64 (M.2.1 32) = s_X11_begin sf.1 uu 0 (M.2.1 32) := by rw [e0]
      have ez : nI 0 = 0 := by decide
      rw [eb, ez] at k2
      have e2 := wr_eq E (31 * X.2.1 + (1000 * 1 : Int32).toInt64 + (X.1 4 1).toInt64) 2 0
      have E2lo : ∀ a : Nat, a < 19 ∨ a = 25 → entS E 2 0 a = E a := fun a ha => entS_lo ha
      unfold bgR s_X7_beginSegment s_X7_beginSegment_2 s_X7_beginSegment_1 at k2
      rw [Elo 6 (by decide), Elo 4 (by decide), Elo 10 (by decide)] at k2
      rw [Elo 0 (by decide)] at e2
      generalize hE2 : entS E 2 0 = E2 at k2 e2 E2lo
      have hX : (n_start_2 X).1 = tr7 X.1 5 (s_X7_beginSegment_1 (upd (X.1 5) 1 0) 0 1 (X.1 0 0) (X.1 6) (if s_X6_property (X.1 4) (X.1 10) 0 2 ≤ 0 then 2 else 1) (31 * (31 * X.2.1 + (1000 * 1 : Int32).toInt64 + (X.1 4 1).toInt64) + (1000 * 2 : Int32).toInt64 + (0 : Int32).toInt64, E2 19, E2 22, E2 20, E2 23, E2 21, E2 24)).1 (E2 19) (E2 20) (E2 21) (E2 22) (E2 23) (E2 24) := by
        unfold n_start_2 s_X10_start s_X10_start_1 s_X7_startProgram s_X7_startProgram_2 s_X7_startProgram_1 tr7
        rw [e1]
        unfold s_X7_beginSegment s_X7_beginSegment_2
        rw [e2]
        unfold s_X7_beginSegment_1
        rfl
      have hJ : (n_start_2 X).2.1 = 31 * (31 * X.2.1 + (1000 * 1 : Int32).toInt64 + (X.1 4 1).toInt64) + (1000 * 2 : Int32).toInt64 + (0 : Int32).toInt64 := by
        unfold n_start_2 s_X10_start s_X10_start_1 s_X7_startProgram s_X7_startProgram_2 s_X7_startProgram_1
        rw [e1]
        unfold s_X7_beginSegment s_X7_beginSegment_2
        rw [e2]
        unfold s_X7_beginSegment_1
        rfl
      refine lSt_s h (F := 7) (L := 147) (by decide) (by decide) (fun ki a1 a2 a3 a4 => w_start_2 l hl0 D cI cJ cO z b o u X Y fo ki a1 a2 a3 a4 v v2) (by unfold q_start; rw [hq, hsf]) rfl rfl rfl ?_ ?_
      · rw [hX, hJ]
        refine kSt.of hT1 hT2 (hr.e 32 (by decide)).eq (k2.1.trb7 (by decide) (fun b hb => (E2lo b hb).trans (Elo b hb))) (by rw [tr7_0 (by decide)]) k2.2
      · refine congrArg Int32.toInt64 ?_
        have a2 : a_start M = (s_X11_begin sf.1 uu 0 (M.2.1 32) 43).toInt32 := by unfold a_start; rw [hq]
        have a1 : r_start_2 X = X.1 4 1 := by
          unfold r_start_2 s_X10_start s_X10_start_1
          rfl
        have q : kE (s_X11_begin sf.1 uu 0 (M.2.1 32) 43) (E2 4 1) 0 12 := k2.1.e 43 (by decide)
        rw [a1, a2, q.back, E2lo 4 (by decide), E4]
  · have c1 : ¬ s_X11_runs (upd M.1 7 0) M.2.1 = 0 := by rw [er]; exact v
    refine lSt_t (by decide) (by decide) (w_start_0 l hl0 D cI cJ cO z b o u X Y fo v) rfl (by decide) ?_ h
    unfold q_start s_X11_start s_X11_start_5 s_X11_refuse
    rw [if_neg c1]
theorem ud_L30 (sv : Nat → Int64) (f : Nat → Int32) (dst : Nat → Int64) {q : Nat} (hq : q < 6) (h : f 5 - 1 = nI q) (k : Nat) : (kLoop default (b_X11_undo_L30 sv f) ((Int32.toInt 294 - Int32.toInt 0).toNat + 1) (0, dst)).2 k = if k < 294 then sv (q * 294 + k) else dst k := by
  have e : (Int32.toInt 294 - Int32.toInt 0).toNat + 1 = 294 + 1 := by decide
  rw [e]
  have r := kCopy (off := 0) (N := 294) (src := fun k => sv (q * 294 + k)) (b := b_X11_undo_L30 sv f) (D0 := default) (fun i g hi => ?_) (fun g => ?_) 294 0 dst (by decide) k
  · rw [show (0 : Int32) = nI 0 from rfl, r]
    by_cases c : k < 294
    · rw [if_pos c, if_pos (by omega)]
      exact congrArg sv (by omega)
    · rw [if_neg c, if_neg (by omega)]
  · unfold b_X11_undo_L30
    have c : ¬ 294 ≤ nI i := nI_ge hi (by decide)
    have e1 : (f 5 - 1) * 294 = nI (q * 294) := by rw [h]; exact nI_mul (c := 294) (by omega) (by decide) (by omega)
    show (if 294 ≤ nI i then (Sum.inr (nI i, g)) else (Sum.inl (nI i + 1, vp_updL g (Int32.toNatClampNeg (nI i)) (sv (Int32.toNatClampNeg (((f 5) - 1) * 294 + nI i)))))) = _
    rw [if_neg c, e1, nI_plus (by omega), nI_clamp (by omega), nI_clamp (by omega), nI_succ, Nat.zero_add]
  · unfold b_X11_undo_L30
    exact if_pos (by show (294 : Int32) ≤ nI 294; decide)
theorem ok_undo {l : Launch} (hl0 : l.stackTraces = false) (D : va_G) (cI cJ cO : ClassId) (z : zT) {X : kXS} {Y : kTS} {M : kMS} (b o : Nat) (u : Nat → Nat) (fo : Nat → Int64) (h : rR X Y M) : lStep l D cI cJ cO z yL_undo cL_undo 3 [(0, 8, 11, 24)] [.ref b, .ref o] b o u X Y fo (a_undo M) ((q_undo M).1 7) (fun X2 Y2 => rR X2 Y2 (q_undo M)) := by
  have hfull := h.2.1.full
  by_cases v : X.2.2.2.2.1 2 ≤ 0
  · refine lSt_t (by decide) (by decide) (w_undo_0 l hl0 D cI cJ cO z b o u X Y fo v) rfl (by decide) ?_ h
    have c : M.1 5 = 0 := by
      have a := Int32.le_iff_toInt_le.mp v
      rw [← hfull, Int32.toInt_zero] at a
      exact Int32.toInt_inj.mp (by have := h.n5.1; show (M.1 5).toInt = 0; omega)
    unfold q_undo s_X11_undo s_X11_undo_1 s_X11_refuse
    rw [if_pos c]
  · obtain ⟨ki, r1, r2, r3, q, r4, r5, r6, r7, r8⟩ := h.2.1.restore v
    have c : ¬ M.1 5 = 0 := fun z => v (by rw [← hfull, z]; decide)
    have e5 : M.1 5 - 1 = nI q := by rw [hfull]; exact r6
    have lay := ud_L30 M.2.2.1 M.1 M.2.1 r4 e5
    generalize hz : (kLoop default (b_X11_undo_L30 M.2.2.1 M.1) ((Int32.toInt 294 - Int32.toInt 0).toNat + 1) (0, M.2.1)) = zz at lay
    have hq : s_X11_undo M.1 M.2.2.1 M.2.1 = (M.1 5 - 1, upd (upd M.1 7 0) 5 (M.1 5 - 1), zz.2) := by
      unfold s_X11_undo s_X11_undo_2
      rw [if_neg c, hz]
    refine ⟨7, 148, Unit, 0, n_undo_1 X ki Y, fun _ => Y, vp_updL fo 0 (r_undo_1 X ki Y).toInt64, by decide, by decide, w_undo_1 l hl0 D cI cJ cO z b o u X Y fo ki r1 r2 r3 v r7.sb v, ?_, fun _ => upsL.trans ?_, fun _ => ⟨?_, ?_, ?_⟩⟩
    · unfold q_undo
      rw [hq]
      show upd (upd M.1 7 0) 5 (M.1 5 - 1) 7 = 0
      exact upn (by decide) ups
    · refine congrArg Int32.toInt64 ?_
      unfold a_undo r_undo_1 s_X10_undo
      rw [hq]
      show X.2.2.2.2.1 2 - 1 = M.1 5 - 1
      rw [hfull]
    · have k := r7.cg (v := zz.2) (fun i hi => (lay i).trans (if_pos hi))
      unfold q_undo
      rw [hq]
      obtain ⟨T, t1, t2, t3, t4⟩ := k
      refine ⟨T, t1, t2, ?_, t4⟩
      refine t3.cgX (fun a ha h7 h8 => ?_)
      match a, ha, h7, h8 with
      | 0, _, _, _ => rfl
      | 1, _, _, _ => rfl
      | 2, _, _, _ => rfl
      | 3, _, _, _ => rfl
      | 4, _, _, _ => rfl
      | 5, _, _, _ => rfl
      | 6, _, _, _ => rfl
      | 7, _, h7, _ => exact absurd rfl h7
      | 8, _, _, h8 => exact absurd rfl h8
      | 9, _, _, _ => rfl
      | 10, _, _, _ => rfl
      | 11, _, _, _ => rfl
      | 12, _, _, _ => rfl
      | 13, _, _, _ => rfl
      | 14, _, _, _ => rfl
      | 15, _, _, _ => rfl
      | 16, _, _, _ => rfl
      | 17, _, _, _ => rfl
      | 18, _, _, _ => rfl
      | 19, _, _, _ => rfl
      | 20, _, _, _ => rfl
      | 21, _, _, _ => rfl
      | 22, _, _, _ => rfl
      | 23, _, _, _ => rfl
      | 24, _, _, _ => rfl
      | 25, _, _, _ => rfl
      | n + 26, h, _, _ => exact absurd h (by omega)
    · unfold q_undo
      rw [hq]
      show kSv (upd (upd X.2.2.2.2.1 1 (nI ki)) 2 (X.2.2.2.2.1 2 - 1)) Y (upd (upd M.1 7 0) 5 (M.1 5 - 1) 5) M.2.2.1
      rw [ups, e5]
      exact r8
    · unfold q_undo
      rw [hq]
      show kTx X.2.2.2.2.2.1 X.2.2.2.2.2.2.1 (upd (upd M.1 7 0) 5 (M.1 5 - 1) 6) M.2.2.2.2.1
      have e : upd (upd M.1 7 0) 5 (M.1 5 - 1) 6 = M.1 6 := upn (by decide) (upn (by decide) rfl)
      rw [e]
      exact h.2.2
