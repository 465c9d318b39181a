theorem q_385 : Cond.static yL_pass ∈ lw_all := kq 385 (by decide +kernel) (by decide +kernel)
theorem q_386 : Cond.codeWith yL_pass cL_pass 3 (some .int) [(0, 5, 6, 18), (0, 5, 10, 28)] ∈ lw_all := kq 386 (by decide +kernel) (by decide +kernel)
theorem cw_pass : pCw yL_pass cL_pass 3 [(0, 5, 6, 18), (0, 5, 10, 28)] 2 := ⟨q_386, q_15, q_385, by decide +kernel⟩
set_option maxRecDepth 100000 in
theorem np_pass (X : kXS) (p0 : Int32) (m : kpS) (hm : kLoop default (b_X10_pass_L47 p0 (X.1 4) (X.1 10) (X.1 1) (X.1 2) (X.1 3)) ((Int32.toInt p0 - Int32.toInt 0).toNat + 1) (0, (X.1 0), (X.1 5), (X.1 6), X.2.1, (X.1 9), (X.1 11), (X.1 12), (X.1 13), (X.1 14), (X.1 15), (X.1 16), (X.1 17), (X.1 18), (X.1 19), (X.1 20), (X.1 21), (X.1 22), (X.1 23), (X.1 24), (X.1 25)) = m) : r_pass_2 X p0 = m.2.2.2.1 0 ∧ (n_pass_2 X p0).2.2.2.2.1 = kKf X.2.2.2.2.1 ∧ (n_pass_2 X p0).1 0 = m.2.1 ∧ (n_pass_2 X p0).1 4 = X.1 4 ∧ (n_pass_2 X p0).1 5 = m.2.2.1 ∧ (n_pass_2 X p0).1 6 = m.2.2.2.1 ∧ (n_pass_2 X p0).1 9 = m.2.2.2.2.2.1 ∧ (n_pass_2 X p0).1 25 = m.2.2.2.2.2.2.2.2.2.2.2.2.2.2.2.2.2.2.2.2 := by
  have e : s_X10_pass (X.1 0) X.2.2.2.2.1 (X.1 1) (X.1 2) (X.1 3) (X.1 4) (X.1 5) (X.1 6) X.2.1 (X.1 9) (X.1 10) (X.1 11) (X.1 12) (X.1 13) (X.1 14) (X.1 15) (X.1 16) (X.1 17) (X.1 18) (X.1 19) (X.1 20) (X.1 21) (X.1 22) (X.1 23) (X.1 24) (X.1 25) p0 = s_X10_pass_2 X.2.2.2.2.1 m := by
    unfold s_X10_pass
    rw [hm]
  unfold r_pass_2 n_pass_2
  rw [e]
  exact ⟨rfl, rfl, rfl, rfl, rfl, rfl, rfl, rfl⟩
theorem pv_pass (V : pV) (ki : Nat) (p0 : Int32) (h : (n_pass_2 (pX V) p0).2.2.2.2.1 = kKf V.2.2.1) : pvis (n_pass_2 (pX V) p0) (tK ki (pX V) (pY V) (fun _ => 0)) = ((n_pass_2 (pX V) p0).1, (n_pass_2 (pX V) p0).2.1, kKf V.2.2.1, kKm ki V.2.2.2.1, va_up V.2.2.2.2.1 ki V.1, va_up V.2.2.2.2.2.1 ki V.2.1, V.2.2.2.2.2.2) := by
  unfold pvis
  rw [h]
  rfl
theorem pc_pass (l : Launch) (hl0 : l.stackTraces = false) (D : va_G) (cI cJ cO : ClassId) (z : zT) {V : pV} {ki : Nat} (p0 : Int32) (hki : V.2.2.1 1 = nI ki) (hk6 : ki < 6) (hkm : ki ≤ V.2.2.2.1) (hsb : kSb V.1) (v1 : ¬ (s_X10_isWithin p0 1 500) = 0) (v2 : ¬ 20000 < ((V.1 0 0) + p0)) : pCall l D cI cJ cO z yL_pass cL_pass 3 [(0, 5, 6, 18), (0, 5, 10, 28)] [.int p0] V (r_pass_2 (pX V) p0) (pvis (n_pass_2 (pX V) p0) (tK ki (pX V) (pY V) (fun _ => 0))) := by
  intro b u q hq
  obtain ⟨X, Y⟩ := q
  subst hq
  exact ⟨7, 158, Nat → Nat, n_pass_2 X p0, fun uu => tK ki X Y uu, by decide, by decide, w_pass_2 l hl0 D cI cJ cO z b u X Y ki p0 hki hk6 hkm hsb v1 v2, fun _ => rfl⟩
theorem pw_pass (l : Launch) (hl0 : l.stackTraces = false) (D : va_G) (cI cJ cO : ClassId) (z : zT) {T : Int} {V : pV} (hI : pInv T V) (hT : 0 ≤ T ∧ T < 19000) {p0 : Int32} (hp : kIn p0 1 9) : ∃ (r : Int32) (V2 : pV), pInv (T + 9) V2 ∧ pCall l D cI cJ cO z yL_pass cL_pass 3 [(0, 5, 6, 18), (0, 5, 10, 28)] [.int p0] V r V2 := by
  obtain ⟨ki, hki, hk6, hkm⟩ := hI.2.2.1.ki
  have hsb := hI.1.sb
  by_cases v1 : (s_X10_isWithin p0 1 500) = 0
  · refine ⟨(-2000002), V, hI.up (by omega), fun b u q hq => ?_⟩
    obtain ⟨X, Y⟩ := q
    subst hq
    exact ⟨8, 128, Unit, n_pass_0 X p0, fun _ => Y, by decide, by decide, w_pass_0 l hl0 D cI cJ cO z b u X Y p0 v1, fun _ => rfl⟩
  by_cases v2 : 20000 < ((V.1 0 0) + p0)
  · refine ⟨(-2000003), V, hI.up (by omega), fun b u q hq => ?_⟩
    obtain ⟨X, Y⟩ := q
    subst hq
    exact ⟨8, 128, Unit, n_pass_1 X p0, fun _ => Y, by decide, by decide, w_pass_1 l hl0 D cI cJ cO z b u X Y p0 v1 v2, fun _ => rfl⟩
  refine ⟨_, _, ?_, pc_pass l hl0 D cI cJ cO z p0 hki hk6 hkm hsb v1 v2⟩
  obtain ⟨e1, e2⟩ := nIofI (p := p0) (N := 9) (by have := hp.1; omega) hp.2
  have l1 := hp.1
  have l2 := hp.2
  generalize p0.toInt.toNat = N at e1 e2
  have hl := ps_loop (T := T) (S := (pX V).1) (p0 := p0) (N := N) (z0 := (0, ((pX V).1 0), ((pX V).1 5), ((pX V).1 6), (pX V).2.1, ((pX V).1 9), ((pX V).1 11), ((pX V).1 12), ((pX V).1 13), ((pX V).1 14), ((pX V).1 15), ((pX V).1 16), ((pX V).1 17), ((pX V).1 18), ((pX V).1 19), ((pX V).1 20), ((pX V).1 21), ((pX V).1 22), ((pX V).1 23), ((pX V).1 24), ((pX V).1 25))) e1 ⟨hT.1, by omega⟩ hI.1 rfl
  obtain ⟨m, hm⟩ : ∃ m, kLoop default (b_X10_pass_L47 p0 ((pX V).1 4) ((pX V).1 10) ((pX V).1 1) ((pX V).1 2) ((pX V).1 3)) ((Int32.toInt p0 - Int32.toInt 0).toNat + 1) (0, ((pX V).1 0), ((pX V).1 5), ((pX V).1 6), (pX V).2.1, ((pX V).1 9), ((pX V).1 11), ((pX V).1 12), ((pX V).1 13), ((pX V).1 14), ((pX V).1 15), ((pX V).1 16), ((pX V).1 17), ((pX V).1 18), ((pX V).1 19), ((pX V).1 20), ((pX V).1 21), ((pX V).1 22), ((pX V).1 23), ((pX V).1 24), ((pX V).1 25)) = m := ⟨_, rfl⟩
  rw [hm] at hl
  obtain ⟨-, n1, n0, n4, n5, n6, n9, -⟩ := np_pass (pX V) p0 m hm
  rw [pv_pass V ki p0 n1]
  refine pInv.keep hI (by omega) hki hk6 _ ?_
  unfold pOK
  rw [n0, n4, n5, n6, n9]
  exact pOr.up hl (by omega)
/-- one minute passes -/
theorem pw_pass1 (l : Launch) (hl0 : l.stackTraces = false) (D : va_G) (cI cJ cO : ClassId) (z : zT) {T : Int} {V : pV} (hI : pInv T V) (hT : 0 ≤ T ∧ T < 19000) : ∃ V2 : pV, pInv (T + 1) V2 ∧ V2.1 6 = (mnR V.1 V.2.1).2.2.1 ∧ V2.1 5 = (mnR V.1 V.2.1).2.1 ∧ V2.1 9 = (mnR V.1 V.2.1).2.2.2.2.2.2.2.2.2.2.1 ∧ V2.1 25 = (mnR V.1 V.2.1).2.2.2.2.2.2.2.2.2.2.2.1 ∧ pCall l D cI cJ cO z yL_pass cL_pass 3 [(0, 5, 6, 18), (0, 5, 10, 28)] [.int 1] V ((mnR V.1 V.2.1).2.2.1 0) V2 := by
  obtain ⟨ki, hki, hk6, hkm⟩ := hI.2.2.1.ki
  have hsb := hI.1.sb
  have v2 : ¬ 20000 < ((V.1 0 0) + 1) := by
    intro y
    have y2 := Int32.lt_iff_toInt_lt.mp y
    have k := kIn.add hI.1.1 (kIn.lit (x := 1) (n := 1) (by decide)) (by decide) (by omega)
    have := k.2
    have e : Int32.toInt 20000 = 20000 := by decide
    omega
  have h1 := ps_one V.1 V.2.1
  have hA := (mn_all V.2.1 hI.1 (by omega)).1
  have hc := pc_pass l hl0 D cI cJ cO z 1 hki hk6 hkm hsb (by decide) v2
  generalize mnR V.1 V.2.1 = r at h1 hA ⊢
  obtain ⟨e0, n1, n0, n4, n5, n6, n9, n25⟩ := np_pass (pX V) 1 _ h1
  rw [e0, pv_pass V ki 1 n1] at hc
  generalize n_pass_2 (pX V) 1 = X2 at hc n0 n4 n5 n6 n9 n25
  refine ⟨_, ?_, ?_, ?_, ?_, ?_, hc⟩
  · refine pInv.keep hI (by omega) hki hk6 _ ?_
    unfold pOK
    rw [n0, n4, n5, n6, n9]
    exact hA
  · exact n6
  · exact n5
  · exact n9
  · exact n25