/-! steps of the law out of the wrappers -/
theorem kSv.restore {fs : Nat → Int32} {Y : kTS} {n : Int32} {sv : Nat → Int64} (h : kSv fs Y n sv) (h0 : ¬ fs 2 ≤ 0) : ∃ ki : Nat, (if fs 1 ≤ 0 then 5 else fs 1 - 1) = nI ki ∧ ki < 6 ∧ ki < Y.1 ∧ (∃ q : Nat, q < 6 ∧ n = nI (q + 1) ∧ fs 2 - 1 = nI q ∧ kSt (Y.2.2.1 ki) (Y.2.2.2 ki) (fun k => sv (q * 294 + k)) ∧ kSv (upd (upd fs 1 (nI ki)) 2 (fs 2 - 1)) Y (nI q) sv) := by
  obtain ⟨p, q, h1, h2, h3, h4, h5, h6, h7⟩ := h
  have hq : 0 < q := by
    rcases Nat.eq_zero_or_pos q with c | c
    · rw [h4, c] at h0
      exact absurd (by decide) h0
    · exact c
  obtain ⟨o1, o2⟩ := h7 0 hq
  have e0 : (p + 5 - 0) % 6 = (p + 5) % 6 := by rw [Nat.sub_zero]
  rw [e0] at o1 o2
  have e1 : fs 2 - 1 = nI (q - 1) := by rw [h4]; exact nI_minus (b := 1) (by omega) (by omega)
  refine ⟨(p + 5) % 6, ?_, Nat.mod_lt _ (by decide), o1, q - 1, by omega, by rw [h5]; congr 1; omega, e1, o2.cg (fun k hk => congrArg sv (by omega)), ?_⟩
  · rw [h3]
    by_cases c : p = 0
    · subst c; decide
    · rw [if_neg (show ¬ nI p ≤ 0 from nI_ge (a := 0) (b := p) (by omega) (by omega))]
      refine (nI_minus (b := 1) (by omega) (by omega)).trans ?_
      congr 1; omega
  · refine ⟨(p + 5) % 6, q - 1, Nat.mod_lt _ (by decide), by omega, upn (by decide) ups, by rw [ups, e1], rfl, by omega, fun b hb => ?_⟩
    obtain ⟨u1, u2⟩ := h7 (b + 1) (by omega)
    have e : ((p + 5) % 6 + 5 - b) % 6 = (p + 5 - (b + 1)) % 6 := by omega
    rw [e]
    exact ⟨u1, u2.cg (fun k hk => congrArg sv (by omega))⟩
theorem kSv.full {fs : Nat → Int32} {Y : kTS} {n : Int32} {sv : Nat → Int64} (h : kSv fs Y n sv) : n = fs 2 := by
  obtain ⟨p, q, h1, h2, h3, h4, h5, h6, h7⟩ := h
  rw [h5, h4]
section LST
variable {l : Launch} {D : va_G} {cI cJ cO : ClassId} {z : zT} {y : MethodName} {code : ByteArray} {nL : Nat} {hh : List (Nat × Nat × Nat × Nat)} {av : List Value} {b o : Nat} {u : Nat → Nat} {X X2 : kXS} {Y : kTS} {fo : Nat → Int64} {rM th : Int32} {Rn : kXS → kTS → Prop} {F L : Nat} {rt : Int32} {v : Int64} {ki : Nat}
theorem lSt_x (hF : F ≤ 10) (hL : L ≤ 300) (hw : kWi l y code nL hh F L 26 331 D (kT cI cJ cO) z av (xwW cI cJ cO b o u X Y fo ++ kTl cI Y) rt (fun _ : Unit => xwW cI cJ cO b o u X2 Y fo ++ kTl cI Y)) (hrt : ¬ rt = 0) (hth : th = rt) (hR : Rn X2 Y) : lStep l D cI cJ cO z y code nL hh av b o u X Y fo rM th Rn :=
  ⟨F, L, Unit, rt, X2, fun _ => Y, fo, hF, hL, hw, hth, fun h => absurd h hrt, fun _ => hR⟩
theorem lSt_u (hF : F ≤ 10) (hL : L ≤ 300) (hw : kWi l y code nL hh F L 26 331 D (kT cI cJ cO) z av (xwW cI cJ cO b o u X Y fo ++ kTl cI Y) 0 (fun _ : Unit => xwW cI cJ cO b o u X2 Y (vp_updL fo 0 v) ++ kTl cI Y)) (hth : th = 0) (hv : v = rM.toInt64) (hR : Rn X2 Y) : lStep l D cI cJ cO z y code nL hh av b o u X Y fo rM th Rn :=
  ⟨F, L, Unit, 0, X2, fun _ => Y, vp_updL fo 0 v, hF, hL, hw, hth, fun _ => upsL.trans hv, fun _ => hR⟩
theorem lSt_k (hF : F ≤ 10) (hL : L ≤ 300) (hw : kWi l y code nL hh F L 26 331 D (kT cI cJ cO) z av (xwW cI cJ cO b o u X Y fo ++ kTl cI Y) 0 (fun uu : Nat → Nat => xwW cI cJ cO b o u X2 (tK ki X Y uu) (vp_updL fo 0 v) ++ kTl cI (tK ki X Y uu))) (hth : th = 0) (hv : v = rM.toInt64) (hR : ∀ uu, Rn X2 (tK ki X Y uu)) : lStep l D cI cJ cO z y code nL hh av b o u X Y fo rM th Rn :=
  ⟨F, L, Nat → Nat, 0, X2, fun uu => tK ki X Y uu, vp_updL fo 0 v, hF, hL, hw, hth, fun _ => upsL.trans hv, hR⟩
end LST
theorem inW {p x y : Int32} {a b : Int64} {p1 q1 p2 q2 : Int} (ha : kE a x p1 q1) (hb : kE b y p2 q2) : s_X11_in p.toInt64 a b = s_X10_isWithin p x y := by
  unfold s_X11_in s_X10_isWithin
  rw [kItes (kE.lt (kE.any p) ha), kItes (kE.lt hb (kE.any p))]
theorem wi_yes {p x y : Int32} (h : ¬ s_X10_isWithin p x y = 0) : x.toInt ≤ p.toInt ∧ p.toInt ≤ y.toInt := by
  unfold s_X10_isWithin at h
  by_cases c1 : p < x
  · rw [if_pos c1] at h
    exact absurd rfl h
  · rw [if_neg c1] at h
    by_cases c2 : y < p
    · rw [if_pos c2] at h
      exact absurd rfl h
    · exact ⟨by have a : ¬ p.toInt < x.toInt := fun z => c1 (Int32.lt_iff_toInt_lt.mpr z); omega, by have a : ¬ y.toInt < p.toInt := fun z => c2 (Int32.lt_iff_toInt_lt.mpr z); omega⟩
theorem wi_eq {p x y : Int32} {n : Int32} (hy : y + 1 = n) (hy2 : y.toInt < 2147483647) : (s_X10_isWithin p x y = 0) = (p < x ∨ n ≤ p) := by
  have e : n.toInt = y.toInt + 1 := by
    rw [← hy, Int32.toInt_add, show (1 : Int32).toInt = 1 by decide, kn_bmod (by have := (kn_rng y).1; omega) (by omega)]
  unfold s_X10_isWithin
  refine propext ⟨fun h => ?_, fun h => ?_⟩
  · by_cases c1 : p < x
    · exact Or.inl c1
    · rw [if_neg c1] at h
      by_cases c2 : y < p
      · exact Or.inr (Int32.le_iff_toInt_le.mpr (by have := Int32.lt_iff_toInt_lt.mp c2; omega))
      · rw [if_neg c2] at h
        exact absurd h (by decide)
  · rcases h with h | h
    · rw [if_pos h]
    · have h2 := Int32.le_iff_toInt_le.mp h
      by_cases c1 : p < x
      · rw [if_pos c1]
      · rw [if_neg c1, if_pos (Int32.lt_iff_toInt_lt.mpr (by omega))]
