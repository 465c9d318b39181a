/-! the law's steps: what there is -/
theorem rR.thr {X : kXS} {Y : kTS} {M : kMS} (h : rR X Y M) {c : Int32} : rR X Y (upd (upd M.1 7 0) 7 c, M.2) := h.same rfl rfl rfl rfl rfl
theorem rR.rd {X : kXS} {Y : kTS} {M : kMS} (h : rR X Y M) : rR X Y (upd M.1 7 0, M.2) := h.same rfl rfl rfl rfl rfl
section LSR
variable {l : Launch} {D : va_G} {cI cJ cO : ClassId} {z : zT} {y : MethodName} {code : ByteArray} {nL : Nat} {hh : List (Nat × Nat × Nat × Nat)} {av : List Value} {b o : Nat} {u : Nat → Nat} {X X2 : kXS} {Y : kTS} {M q : kMS} {fo : Nat → Int64} {rM : Int32} {F L : Nat} {c : Int32} {v : Int64}
theorem lSt_t (hF : F ≤ 10) (hL : L ≤ 300) (hw : kWi l y code nL hh F L 26 331 D (kT cI cJ cO) z av (xwW cI cJ cO b o u X Y fo ++ kTl cI Y) c (fun _ : Unit => xwW cI cJ cO b o u X2 Y fo ++ kTl cI Y)) (hX : X2 = X) (hc : ¬ c = 0) (hq : q = (upd (upd M.1 7 0) 7 c, M.2)) (h : rR X Y M) : lStep l D cI cJ cO z y code nL hh av b o u X Y fo rM (q.1 7) (fun X3 Y3 => rR X3 Y3 q) := by
  subst hq
  exact lSt_x hF hL hw hc (show upd (upd M.1 7 0) 7 c 7 = c from ups) (by rw [hX]; exact h.thr)
theorem lSt_r (hF : F ≤ 10) (hL : L ≤ 300) (hw : kWi l y code nL hh F L 26 331 D (kT cI cJ cO) z av (xwW cI cJ cO b o u X Y fo ++ kTl cI Y) 0 (fun _ : Unit => xwW cI cJ cO b o u X2 Y (vp_updL fo 0 v) ++ kTl cI Y)) (hX : X2 = X) (hq : q = (upd M.1 7 0, M.2)) (hv : v = rM.toInt64) (h : rR X Y M) : lStep l D cI cJ cO z y code nL hh av b o u X Y fo rM (q.1 7) (fun X3 Y3 => rR X3 Y3 q) := by
  subst hq
  exact lSt_u hF hL hw (show upd M.1 7 0 7 = 0 from ups) hv (by rw [hX]; exact h.rd)
end LSR
theorem nIofI {p : Int32} {N : Int} (h0 : 0 ≤ p.toInt) (h : p.toInt ≤ N) : p = nI p.toInt.toNat ∧ (p.toInt.toNat : Int) = p.toInt := by
  have a := (kn_rng p).2
  refine ⟨nI_kin ⟨by omega, by omega⟩ (by omega), by omega⟩
theorem rg_read {N : Nat} {g cells : Nat → Int32} {m : Int64} {row : Nat → Int64} (h : rgR N g cells m row) (hN : N < 2 ^ 30) {p : Int32} (hp : ¬ p < 0) : (m ≤ p.toInt64 ∧ s_X3_latest N g cells p = -10000) ∨ (∃ q b : Nat, b < q ∧ q ≤ N ∧ m = (nI q).toInt64 ∧ p = nI b ∧ ¬ m ≤ p.toInt64 ∧ s_X3_latest N g cells p = (row (q - 1 - b)).toInt32) := by
  obtain ⟨p1, q, h1, h2, h3, h4, h5, h6⟩ := h
  have hp0 : 0 ≤ p.toInt := by
    have a : ¬ p.toInt < (0 : Int32).toInt := fun z => hp (Int32.lt_iff_toInt_lt.mpr z)
    rw [Int32.toInt_zero] at a
    omega
  by_cases c : p < g 2
  · right
    have ci := Int32.lt_iff_toInt_lt.mp c
    rw [h4, nI_toInt (by omega)] at ci
    obtain ⟨e1, e2⟩ := nIofI (N := 2147483647) hp0 (by have := (kn_rng p).2; omega)
    refine ⟨q, p.toInt.toNat, by omega, h2, h5, e1, fun z => ?_, ?_⟩
    · have a := Int64.le_iff_toInt_le.mp z
      rw [h5, nIL (by omega), Int32.toInt_toInt64] at a
      omega
    · have a := latest_nI (N := N) (g := g) (cells := cells) (b := p.toInt.toNat) hN h1 h2 h3 h4 (by omega)
      rw [← e1] at a
      rw [a, h6 p.toInt.toNat (by omega)]
      exact (Int32.toInt32_toInt64 _).symm
  · left
    refine ⟨Int64.le_iff_toInt_le.mpr ?_, latest_out (Or.inr c)⟩
    have a : ¬ p.toInt < (g 2).toInt := fun z => c (Int32.lt_iff_toInt_lt.mpr z)
    rw [h4, nI_toInt (by omega)] at a
    rw [h5, nIL (by omega), Int32.toInt_toInt64]
    omega
theorem rA_set : ∀ n : Nat, n < 12 → rA n = (1, n) := by decide
theorem i24 {p : Int32} (h : ¬ s_X10_isWithin p 0 24 = 0) : p = 0 ∨ p = 1 ∨ p = 2 ∨ p = 3 ∨ p = 4 ∨ p = 5 ∨ p = 6 ∨ p = 7 ∨ p = 8 ∨ p = 9 ∨ p = 10 ∨ p = 11 ∨ p = 12 ∨ p = 13 ∨ p = 14 ∨ p = 15 ∨ p = 16 ∨ p = 17 ∨ p = 18 ∨ p = 19 ∨ p = 20 ∨ p = 21 ∨ p = 22 ∨ p = 23 ∨ p = 24 := by
  have a := wi_yes h
  have a1 : 0 ≤ p.toInt := a.1
  have a2 : p.toInt ≤ 24 := a.2
  obtain ⟨e1, e2⟩ := nIofI a1 a2
  have hb : p.toInt.toNat ≤ 24 := by omega
  generalize p.toInt.toNat = n at e1 hb
  match n, hb with
  | 0, _ => exact Or.inl e1
  | 1, _ => exact Or.inr (Or.inl e1)
  | 2, _ => exact Or.inr (Or.inr (Or.inl e1))
  | 3, _ => exact Or.inr (Or.inr (Or.inr (Or.inl e1)))
  | 4, _ => exact Or.inr (Or.inr (Or.inr (Or.inr (Or.inl e1))))
  | 5, _ => exact Or.inr (Or.inr (Or.inr (Or.inr (Or.inr (Or.inl e1)))))
  | 6, _ => exact Or.inr (Or.inr (Or.inr (Or.inr (Or.inr (Or.inr (Or.inl e1))))))
  | 7, _ => exact Or.inr (Or.inr (Or.inr (Or.inr (Or.inr (Or.inr (Or.inr (Or.inl e1)))))))
  | 8, _ => exact Or.inr (Or.inr (Or.inr (Or.inr (Or.inr (Or.inr (Or.inr (Or.inr (Or.inl e1))))))))
  | 9, _ => exact Or.inr (Or.inr (Or.inr (Or.inr (Or.inr (Or.inr (Or.inr (Or.inr (Or.inr (Or.inl e1)))))))))
  | 10, _ => exact Or.inr (Or.inr (Or.inr (Or.inr (Or.inr (Or.inr (Or.inr (Or.inr (Or.inr (Or.inr (Or.inl e1))))))))))
  | 11, _ => exact Or.inr (Or.inr (Or.inr (Or.inr (Or.inr (Or.inr (Or.inr (Or.inr (Or.inr (Or.inr (Or.inr (Or.inl e1)))))))))))
  | 12, _ => exact Or.inr (Or.inr (Or.inr (Or.inr (Or.inr (Or.inr (Or.inr (Or.inr (Or.inr (Or.inr (Or.inr (Or.inr (Or.inl e1))))))))))))
  | 13, _ => exact Or.inr (Or.inr (Or.inr (Or.inr (Or.inr (Or.inr (Or.inr (Or.inr (Or.inr (Or.inr (Or.inr (Or.inr (Or.inr (Or.inl e1)))))))))))))
  | 14, _ => exact Or.inr (Or.inr (Or.inr (Or.inr (Or.inr (Or.inr (Or.inr (Or.inr (Or.inr (Or.inr (Or.inr (Or.inr (Or.inr (Or.inr (Or.inl e1))))))))))))))
  | 15, _ => exact Or.inr (Or.inr (Or.inr (Or.inr (Or.inr (Or.inr (Or.inr (Or.inr (Or.inr (Or.inr (Or.inr (Or.inr (Or.inr (Or.inr (Or.inr (Or.inl e1)))))))))))))))
  | 16, _ => exact Or.inr (Or.inr (Or.inr (Or.inr (Or.inr (Or.inr (Or.inr (Or.inr (Or.inr (Or.inr (Or.inr (Or.inr (Or.inr (Or.inr (Or.inr (Or.inr (Or.inl e1))))))))))))))))
  | 17, _ => exact Or.inr (Or.inr (Or.inr (Or.inr (Or.inr (Or.inr (Or.inr (Or.inr (Or.inr (Or.inr (Or.inr (Or.inr (Or.inr (Or.inr (Or.inr (Or.inr (Or.inr (Or.inl e1)))))))))))))))))
  | 18, _ => exact Or.inr (Or.inr (Or.inr (Or.inr (Or.inr (Or.inr (Or.inr (Or.inr (Or.inr (Or.inr (Or.inr (Or.inr (Or.inr (Or.inr (Or.inr (Or.inr (Or.inr (Or.inr (Or.inl e1))))))))))))))))))
  | 19, _ => exact Or.inr (Or.inr (Or.inr (Or.inr (Or.inr (Or.inr (Or.inr (Or.inr (Or.inr (Or.inr (Or.inr (Or.inr (Or.inr (Or.inr (Or.inr (Or.inr (Or.inr (Or.inr (Or.inr (Or.inl e1)))))))))))))))))))
  | 20, _ => exact Or.inr (Or.inr (Or.inr (Or.inr (Or.inr (Or.inr (Or.inr (Or.inr (Or.inr (Or.inr (Or.inr (Or.inr (Or.inr (Or.inr (Or.inr (Or.inr (Or.inr (Or.inr (Or.inr (Or.inr (Or.inl e1))))))))))))))))))))
  | 21, _ => exact Or.inr (Or.inr (Or.inr (Or.inr (Or.inr (Or.inr (Or.inr (Or.inr (Or.inr (Or.inr (Or.inr (Or.inr (Or.inr (Or.inr (Or.inr (Or.inr (Or.inr (Or.inr (Or.inr (Or.inr (Or.inr (Or.inl e1)))))))))))))))))))))
  | 22, _ => exact Or.inr (Or.inr (Or.inr (Or.inr (Or.inr (Or.inr (Or.inr (Or.inr (Or.inr (Or.inr (Or.inr (Or.inr (Or.inr (Or.inr (Or.inr (Or.inr (Or.inr (Or.inr (Or.inr (Or.inr (Or.inr (Or.inr (Or.inl e1))))))))))))))))))))))
  | 23, _ => exact Or.inr (Or.inr (Or.inr (Or.inr (Or.inr (Or.inr (Or.inr (Or.inr (Or.inr (Or.inr (Or.inr (Or.inr (Or.inr (Or.inr (Or.inr (Or.inr (Or.inr (Or.inr (Or.inr (Or.inr (Or.inr (Or.inr (Or.inr (Or.inl e1)))))))))))))))))))))))
  | 24, _ => exact Or.inr (Or.inr (Or.inr (Or.inr (Or.inr (Or.inr (Or.inr (Or.inr (Or.inr (Or.inr (Or.inr (Or.inr (Or.inr (Or.inr (Or.inr (Or.inr (Or.inr (Or.inr (Or.inr (Or.inr (Or.inr (Or.inr (Or.inr (Or.inr (e1))))))))))))))))))))))))
  | n + 25, h => exact absurd h (by omega)
theorem val_at {X : kXS} {Y : kTS} {M : kMS} {p : Int32} {k : Nat} (h : rR X Y M) (hk : k < 45) (h1 : r_value_0 X p = rS X.1 k) (h2 : a_value M p = (M.2.1 k).toInt32) : (r_value_0 X p).toInt64 = (a_value M p).toInt64 := by
  obtain ⟨T, _, _, hr, _⟩ := h.1
  rw [h1, h2, (hr.e k hk).back]
theorem ok_value {l : Launch} (hl0 : l.stackTraces = false) (D : va_G) (cI cJ cO : ClassId) (z : zT) {X : kXS} {Y : kTS} {M : kMS} (b o : Nat) (u : Nat → Nat) (fo : Nat → Int64) (p0 : Int32) (h : rR X Y M) : lStep l D cI cJ cO z yL_value cL_value 4 [(0, 9, 12, 15)] [.ref b, .int p0, .ref o] b o u X Y fo (a_value M p0) ((q_value M p0).1 7) (fun X2 Y2 => rR X2 Y2 (q_value M p0)) := by
  by_cases v : s_X10_isWithin p0 0 24 = 0
  · refine lSt_t (by decide) (by decide) (w_value_1 l hl0 D cI cJ cO z b o u X Y fo p0 v) rfl (by decide) ?_ h
    unfold s_X10_isWithin at v
    have hn : ∀ k : Int32, 0 ≤ k → k ≤ 24 → ¬ p0 = k := fun k k0 k1 e => by
      subst e
      rw [if_neg (show ¬ p0 < 0 from fun z => absurd (Int32.lt_iff_toInt_lt.mp z) (by have := Int32.le_iff_toInt_le.mp k0; omega)), if_neg (show ¬ 24 < p0 from fun z => absurd (Int32.lt_iff_toInt_lt.mp z) (by have := Int32.le_iff_toInt_le.mp k1; omega))] at v
      exact absurd v (by decide)
    unfold q_value s_X11_value s_X11_value_3 s_X11_refuse
    rw [if_neg (hn 0 (by decide) (by decide)), if_neg (hn 1 (by decide) (by decide)), if_neg (hn 2 (by decide) (by decide)), if_neg (hn 3 (by decide) (by decide)), if_neg (hn 4 (by decide) (by decide)), if_neg (hn 5 (by decide) (by decide)), if_neg (hn 6 (by decide) (by decide)), if_neg (hn 7 (by decide) (by decide)), if_neg (hn 8 (by decide) (by decide)), if_neg (hn 9 (by decide) (by decide)), if_neg (hn 10 (by decide) (by decide)), if_neg (hn 11 (by decide) (by decide)), if_neg (hn 12 (by decide) (by decide)), if_neg (hn 13 (by decide) (by decide)), if_neg (hn 14 (by decide) (by decide)), if_neg (hn 15 (by decide) (by decide)), if_neg (hn 16 (by decide) (by decide)), if_neg (hn 17 (by decide) (by decide)), if_neg (hn 18 (by decide) (by decide)), if_neg (hn 19 (by decide) (by decide)), if_neg (hn 20 (by decide) (by decide)), if_neg (hn 21 (by decide) (by decide)), if_neg (hn 22 (by decide) (by decide)), if_neg (hn 23 (by decide) (by decide)), if_neg (hn 24 (by decide) (by decide))]
  · have hq : q_value M p0 = (upd M.1 7 0, M.2) := by
      unfold q_value s_X11_value s_X11_value_1 s_X11_value_2
      rcases i24 v with rfl | rfl | rfl | rfl | rfl | rfl | rfl | rfl | rfl | rfl | rfl | rfl | rfl | rfl | rfl | rfl | rfl | rfl | rfl | rfl | rfl | rfl | rfl | rfl | rfl <;> rfl
    have hv : (r_value_0 X p0).toInt64 = (a_value M p0).toInt64 := by
      obtain ⟨T, hT1, hT2, hr, hn⟩ := id h.1
      rcases i24 v with rfl | rfl | rfl | rfl | rfl | rfl | rfl | rfl | rfl | rfl | rfl | rfl | rfl | rfl | rfl | rfl | rfl | rfl | rfl | rfl | rfl | rfl | rfl | rfl | rfl
      · exact val_at h (k := 32) (by decide) rfl rfl
      · exact val_at h (k := 12) (by decide) rfl rfl
      · exact val_at h (k := 13) (by decide) rfl rfl
      · exact val_at h (k := 14) (by decide) rfl rfl
      · exact val_at h (k := 15) (by decide) rfl rfl
      · exact val_at h (k := 33) (by decide) rfl rfl
      · have e : r_value_0 X 6 = (if X.1 5 1 = 0 then 0 else 1) := rfl
        have e2 : a_value M 6 = (M.2.1 34).toInt32 := rfl
        rw [e, e2, (hr.e 34 (by decide)).back]
        rcases h.1.sb.1 with y | y
        · show (if X.1 5 1 = 0 then (0 : Int32) else 1).toInt64 = (X.1 5 1).toInt64
          rw [y]; rfl
        · show (if X.1 5 1 = 0 then (0 : Int32) else 1).toInt64 = (X.1 5 1).toInt64
          rw [y]; rfl
      · have e : r_value_0 X 7 = (if X.1 6 4 = 0 then 0 else 1) := rfl
        have e2 : a_value M 7 = (M.2.1 16).toInt32 := rfl
        rw [e, e2, (hr.e 16 (by decide)).back]
        rcases h.1.sb.2.1 with y | y
        · show (if X.1 6 4 = 0 then (0 : Int32) else 1).toInt64 = (X.1 6 4).toInt64
          rw [y]; rfl
        · show (if X.1 6 4 = 0 then (0 : Int32) else 1).toInt64 = (X.1 6 4).toInt64
          rw [y]; rfl
      · have e : r_value_0 X 8 = (if s_X4_isRunning (X.1 5) = 0 then -10000 else X.1 5 2) := rfl
        have e2 : a_value M 8 = (if s_X11_runs (upd M.1 7 0) M.2.1 = 0 then -10000 else (M.2.1 35).toInt32) := rfl
        rw [e, e2, hr.runs, (hr.e 35 (by decide)).back]
        rfl
      · have e : r_value_0 X 9 = (if s_X4_isRunning (X.1 5) = 0 then -10000 else X.1 5 3) := rfl
        have e2 : a_value M 9 = (if s_X11_runs (upd M.1 7 0) M.2.1 = 0 then -10000 else (M.2.1 36).toInt32) := rfl
        rw [e, e2, hr.runs, (hr.e 36 (by decide)).back]
        rfl
      · exact val_at h (k := 39) (by decide) rfl rfl
      · exact val_at h (k := 40) (by decide) rfl rfl
      · exact val_at h (k := 41) (by decide) rfl rfl
      · exact val_at h (k := 25) (by decide) rfl rfl
      · exact val_at h (k := 26) (by decide) rfl rfl
      · exact val_at h (k := 27) (by decide) rfl rfl
      · exact val_at h (k := 28) (by decide) rfl rfl
      · exact val_at h (k := 29) (by decide) rfl rfl
      · exact val_at h (k := 23) (by decide) rfl rfl
      · exact val_at h (k := 24) (by decide) rfl rfl
      · exact val_at h (k := 31) (by decide) rfl rfl
      · exact val_at h (k := 43) (by decide) rfl rfl
      · exact val_at h (k := 44) (by decide) rfl rfl
      · exact congrArg Int32.toInt64 (h.2.1.full.symm)
      · obtain ⟨m, _, x1, x2, _⟩ := h.2.2
        exact congrArg Int32.toInt64 (x1.trans x2.symm)
    exact lSt_r (by decide) (by decide) (w_value_0 l hl0 D cI cJ cO z b o u X Y fo p0 v) rfl hq hv h
theorem ok_setting {l : Launch} (hl0 : l.stackTraces = false) (D : va_G) (cI cJ cO : ClassId) (z : zT) {X : kXS} {Y : kTS} {M : kMS} (b o : Nat) (u : Nat → Nat) (fo : Nat → Int64) (p0 : Int32) (h : rR X Y M) : lStep l D cI cJ cO z yL_setting cL_setting 4 [(0, 9, 12, 13)] [.ref b, .int p0, .ref o] b o u X Y fo (a_setting M p0) ((q_setting M p0).1 7) (fun X2 Y2 => rR X2 Y2 (q_setting M p0)) := by
  have e : s_X11_in p0.toInt64 0 11 = s_X10_isWithin p0 0 11 := inW (kE.lit (a := 0) (x := 0) (n := 0) (by decide) (by decide)) (kE.lit (a := 11) (x := 11) (n := 11) (by decide) (by decide))
  have e2 : (s_X10_isWithin p0 0 11 = 0) = (p0 < 0 ∨ 12 ≤ p0) := wi_eq (by decide) (by decide)
  by_cases v : p0 < 0 ∨ 12 ≤ p0
  · refine lSt_t (by decide) (by decide) (w_setting_1 l hl0 D cI cJ cO z b o u X Y fo p0 v) rfl (by decide) ?_ h
    unfold q_setting s_X11_setting s_X11_setting_3 j_X11_setting_2 j_X11_setting_1 s_X11_refuse
    rw [if_pos (by rw [e, e2]; exact v)]
  · have c : ¬ s_X11_in p0.toInt64 0 11 = 0 := by rw [e, e2]; exact v
    have w := wi_yes (p := p0) (x := 0) (y := 11) (by rw [e2]; exact v)
    have w1 : 0 ≤ p0.toInt := w.1
    have w2 : p0.toInt ≤ 11 := w.2
    obtain ⟨n1, n2⟩ := nIofI w1 w2
    refine lSt_r (by decide) (by decide) (w_setting_0 l hl0 D cI cJ cO z b o u X Y fo p0 v) rfl ?_ ?_ h
    · unfold q_setting s_X11_setting s_X11_setting_3 j_X11_setting_2
      rw [if_neg c]
    · obtain ⟨T, hT1, hT2, hr, hn⟩ := id h.1
      have a1 : r_setting_0 X p0 = X.1 1 p0.toInt.toNat := by
        unfold r_setting_0 s_X10_setting
        exact at12 _ (by omega) n1
      have a2 : a_setting M p0 = (M.2.1 p0.toInt.toNat).toInt32 := by
        unfold a_setting s_X11_setting s_X11_setting_3 j_X11_setting_2
        rw [if_neg c]
        show (M.2.1 (Int32.toNatClampNeg (0 + p0))).toInt32 = _
        rw [Int32.zero_add]
        rfl
      have b1 := (hr.e p0.toInt.toNat (by omega)).back
      have b2 : rS X.1 p0.toInt.toNat = X.1 1 p0.toInt.toNat := by unfold rS; rw [rA_set _ (by omega)]
      rw [a1, a2, b1, b2]
theorem has_eq {T : Int} {S : Nat → Nat → Int32} {j : Int64} {w : Nat → Int64} (h : kRel T S j w) (f : Nat → Int32) (p : Int32) : (s_X11_hasSegment f w p = 0) = (p < 0 ∨ S 4 1 ≤ p) := by
  have e43 : kE (w 43) (S 4 1) 0 12 := h.e 43 (by decide)
  have a := e43.sub kE1 (by decide) (by decide)
  unfold s_X11_hasSegment
  rw [inW (kE.lit (a := 0) (x := 0) (n := 0) (by decide) (by decide)) a]
  exact wi_eq (by rw [Int32.sub_add_cancel]) (by have := a.2.2; omega)
theorem ok_segment {l : Launch} (hl0 : l.stackTraces = false) (D : va_G) (cI cJ cO : ClassId) (z : zT) {X : kXS} {Y : kTS} {M : kMS} (b o : Nat) (u : Nat → Nat) (fo : Nat → Int64) (p0 : Int32) (p1 : Int32) (h : rR X Y M) : lStep l D cI cJ cO z yL_segment cL_segment 5 [(0, 10, 13, 13), (0, 10, 17, 15)] [.ref b, .int p0, .int p1, .ref o] b o u X Y fo (a_segment M p0 p1) ((q_segment M p0 p1).1 7) (fun X2 Y2 => rR X2 Y2 (q_segment M p0 p1)) := by
  obtain ⟨T, hT1, hT2, hr, hn⟩ := id h.1
  have e := has_eq hr (upd M.1 7 0) p0
  have e3 : s_X11_in p1.toInt64 0 3 = s_X10_isWithin p1 0 3 := inW (kE.lit (a := 0) (x := 0) (n := 0) (by decide) (by decide)) (kE.lit (a := 3) (x := 3) (n := 3) (by decide) (by decide))
  by_cases v : p0 < 0 ∨ X.1 4 1 ≤ p0
  · refine lSt_t (by decide) (by decide) (w_segment_0 l hl0 D cI cJ cO z b o u X Y fo p0 p1 v) rfl (by decide) ?_ h
    unfold q_segment s_X11_segment s_X11_segment_3 s_X11_refuse
    rw [if_pos (pT e v)]
  · have c : ¬ s_X11_hasSegment (upd M.1 7 0) M.2.1 p0 = 0 := pTn e v
    by_cases v2 : s_X10_isWithin p1 0 3 = 0
    · refine lSt_t (by decide) (by decide) (w_segment_2 l hl0 D cI cJ cO z b o u X Y fo p0 p1 v v2) rfl (by decide) ?_ h
      unfold q_segment s_X11_segment s_X11_segment_4 j_X11_segment_2 j_X11_segment_1 s_X11_refuse
      rw [if_neg c, if_pos (e3.trans v2)]
    · have c2 : ¬ s_X11_in p1.toInt64 0 3 = 0 := by rw [e3]; exact v2
      have w := wi_yes v2
      have w1 : 0 ≤ p1.toInt := w.1
      have w2 : p1.toInt ≤ 3 := w.2
      obtain ⟨n1, n2⟩ := nIofI w1 w2
      have u1 : ¬ p0.toInt < (0 : Int32).toInt := fun z => v (Or.inl (Int32.lt_iff_toInt_lt.mpr z))
      rw [Int32.toInt_zero] at u1
      have u2 : ¬ (X.1 4 1).toInt ≤ p0.toInt := fun z => v (Or.inr (Int32.le_iff_toInt_le.mpr z))
      have e43 : kE (M.2.1 43) (X.1 4 1) 0 12 := hr.e 43 (by decide)
      have e43u := e43.2.2
      obtain ⟨m1, m2⟩ := nIofI (p := p0) (N := 12) (by omega) (by omega)
      refine lSt_r (by decide) (by decide) (w_segment_1 l hl0 D cI cJ cO z b o u X Y fo p0 p1 v v2) rfl ?_ ?_ h
      · unfold q_segment s_X11_segment s_X11_segment_4 j_X11_segment_2
        rw [if_neg c, if_neg c2]
      · have a1 : r_segment_1 X p0 p1 = X.1 10 (4 * p0.toInt.toNat + p1.toInt.toNat) := by
          unfold r_segment_1 s_X10_segment
          exact sg_prop (by omega) (by omega) m1 n1
        have a2 : a_segment M p0 p1 = (M.2.1 (50 + 4 * p0.toInt.toNat + p1.toInt.toNat)).toInt32 := by
          unfold a_segment s_X11_segment s_X11_segment_4 j_X11_segment_2
          rw [if_neg c, if_neg c2]
          show (M.2.1 (Int32.toNatClampNeg ((50 + 4 * p0) + p1))).toInt32 = _
          generalize p0.toInt.toNat = i at m1 m2
          generalize p1.toInt.toNat = d at n1 n2
          rw [m1, n1, of_at i d (by omega) (by omega)]
        have b1 := (hr.sg (i := p0.toInt.toNat) (d := p1.toInt.toNat) (by omega) (by omega)).back
        rw [a1, a2, b1]
theorem ok_result {l : Launch} (hl0 : l.stackTraces = false) (D : va_G) (cI cJ cO : ClassId) (z : zT) {X : kXS} {Y : kTS} {M : kMS} (b o : Nat) (u : Nat → Nat) (fo : Nat → Int64) (p0 : Int32) (p1 : Int32) (h : rR X Y M) : lStep l D cI cJ cO z yL_result cL_result 5 [(0, 10, 13, 15)] [.ref b, .int p0, .int p1, .ref o] b o u X Y fo (a_result M p0 p1) ((q_result M p0 p1).1 7) (fun X2 Y2 => rR X2 Y2 (q_result M p0 p1)) := by
  obtain ⟨T, hT1, hT2, hr, hn⟩ := id h.1
  have e3 : s_X11_in p1.toInt64 0 3 = s_X10_isWithin p1 0 3 := inW (kE.lit (a := 0) (x := 0) (n := 0) (by decide) (by decide)) (kE.lit (a := 3) (x := 3) (n := 3) (by decide) (by decide))
  by_cases v : p0 < 0
  · refine lSt_t (by decide) (by decide) (w_result_0 l hl0 D cI cJ cO z b o u X Y fo p0 p1 v) rfl (by decide) ?_ h
    unfold q_result s_X11_result s_X11_result_2 s_X11_refuse
    rw [if_pos v]
  · by_cases v2 : s_X10_isWithin p1 0 3 = 0
    · refine lSt_t (by decide) (by decide) (w_result_1 l hl0 D cI cJ cO z b o u X Y fo p0 p1 v v2) rfl (by decide) ?_ h
      unfold q_result s_X11_result s_X11_result_3 s_X11_refuse
      rw [if_neg v, if_pos (e3.trans v2)]
    · have c2 : ¬ s_X11_in p1.toInt64 0 3 = 0 := by rw [e3]; exact v2
      have w := wi_yes v2
      have w1 : 0 ≤ p1.toInt := w.1
      have w2 : p1.toInt ≤ 3 := w.2
      obtain ⟨n1, n2⟩ := nIofI w1 w2
      refine lSt_r (by decide) (by decide) (w_result_2 l hl0 D cI cJ cO z b o u X Y fo p0 p1 v v2) rfl ?_ ?_ h
      · unfold q_result s_X11_result s_X11_result_4
        rw [if_neg v, if_neg c2]
      · have ea : a_result M p0 p1 = j_X11_result_1 M.2.1 p0 p1 := by
          unfold a_result s_X11_result s_X11_result_4
          rw [if_neg v, if_neg c2]
        have core : ∀ (d : Nat) (g cells : Nat → Int32), d ≤ 3 → p1 = nI d → rgR 16 g cells (M.2.1 45) (fun i => M.2.1 (98 + 4 * i + d)) → s_X3_latest 16 g cells p0 = j_X11_result_1 M.2.1 p0 p1 := by
          intro d g cells hd hp hrg
          unfold j_X11_result_1
          rcases rg_read hrg (by decide) v with ⟨y1, y2⟩ | ⟨q, bb, y1, y2, y3, y4, y5, y6⟩
          · rw [if_pos y1, y2]
          · rw [if_neg y5, y6]
            refine congrArg (fun k => (M.2.1 k).toInt32) ?_
            have x1 : (Int64.toInt32 (M.2.1 45) - 1) - p0 = nI (q - 1 - bb) := by
              rw [y3, nIL_back, y4, show (1 : Int32) = nI 1 from rfl, nI_minus (by omega) (by omega), nI_minus (by omega) (by omega)]
            have x2 : 4 * nI (q - 1 - bb) = nI (4 * (q - 1 - bb)) := nI_mul (a := 4) (by omega) (by omega) (by decide)
            rw [x1, hp, x2]
            have x3 : (98 : Int32) + nI (4 * (q - 1 - bb)) = nI (98 + 4 * (q - 1 - bb)) := nI_plus (a := 98) (by omega)
            rw [x3, nI_plus (by omega), nI_clamp (by omega)]
        rw [ea]
        refine congrArg Int32.toInt64 ?_
        unfold r_result_2 s_X10_result s_X10_result_1 s_X2_property
        generalize p1.toInt.toNat = d at n1 n2
        match d, n1, n2 with
        | 0, n1, _ => rw [if_pos (show p1 = 0 by rw [n1]; rfl)]; exact core 0 _ _ (by decide) n1 hr.2.2.1.1
        | 1, n1, _ => rw [if_neg (show ¬ p1 = 0 by rw [n1]; decide), if_pos (show p1 = 1 by rw [n1]; rfl)]; exact core 1 _ _ (by decide) n1 hr.2.2.1.2.1
        | 2, n1, _ => rw [if_neg (show ¬ p1 = 0 by rw [n1]; decide), if_neg (show ¬ p1 = 1 by rw [n1]; decide), if_pos (show p1 = 2 by rw [n1]; rfl)]; exact core 2 _ _ (by decide) n1 hr.2.2.1.2.2.1
        | 3, n1, _ => rw [if_neg (show ¬ p1 = 0 by rw [n1]; decide), if_neg (show ¬ p1 = 1 by rw [n1]; decide), if_neg (show ¬ p1 = 2 by rw [n1]; decide)]; exact core 3 _ _ (by decide) n1 hr.2.2.1.2.2.2
        | d + 4, n1, n2 => exact absurd n2 (by omega)
theorem ok_audit {l : Launch} (hl0 : l.stackTraces = false) (D : va_G) (cI cJ cO : ClassId) (z : zT) {X : kXS} {Y : kTS} {M : kMS} (b o : Nat) (u : Nat → Nat) (fo : Nat → Int64) (p0 : Int32) (p1 : Int32) (h : rR X Y M) : lStep l D cI cJ cO z yL_audit cL_audit 5 [(0, 10, 13, 15)] [.ref b, .int p0, .int p1, .ref o] b o u X Y fo (a_audit M p0 p1) ((q_audit M p0 p1).1 7) (fun X2 Y2 => rR X2 Y2 (q_audit M p0 p1)) := by
  obtain ⟨T, hT1, hT2, hr, hn⟩ := id h.1
  have e3 : s_X11_in p1.toInt64 0 2 = s_X10_isWithin p1 0 2 := inW (kE.lit (a := 0) (x := 0) (n := 0) (by decide) (by decide)) (kE.lit (a := 2) (x := 2) (n := 2) (by decide) (by decide))
  by_cases v : p0 < 0
  · refine lSt_t (by decide) (by decide) (w_audit_0 l hl0 D cI cJ cO z b o u X Y fo p0 p1 v) rfl (by decide) ?_ h
    unfold q_audit s_X11_audit s_X11_audit_2 s_X11_refuse
    rw [if_pos v]
  · by_cases v2 : s_X10_isWithin p1 0 2 = 0
    · refine lSt_t (by decide) (by decide) (w_audit_1 l hl0 D cI cJ cO z b o u X Y fo p0 p1 v v2) rfl (by decide) ?_ h
      unfold q_audit s_X11_audit s_X11_audit_3 s_X11_refuse
      rw [if_neg v, if_pos (e3.trans v2)]
    · have c2 : ¬ s_X11_in p1.toInt64 0 2 = 0 := by rw [e3]; exact v2
      have w := wi_yes v2
      have w1 : 0 ≤ p1.toInt := w.1
      have w2 : p1.toInt ≤ 2 := w.2
      obtain ⟨n1, n2⟩ := nIofI w1 w2
      refine lSt_r (by decide) (by decide) (w_audit_2 l hl0 D cI cJ cO z b o u X Y fo p0 p1 v v2) rfl ?_ ?_ h
      · unfold q_audit s_X11_audit s_X11_audit_4
        rw [if_neg v, if_neg c2]
      · have ea : a_audit M p0 p1 = j_X11_audit_1 M.2.1 p0 p1 := by
          unfold a_audit s_X11_audit s_X11_audit_4
          rw [if_neg v, if_neg c2]
        have core : ∀ (d : Nat) (g cells : Nat → Int32), d ≤ 2 → p1 = nI d → rgR 24 g cells (M.2.1 46) (fun i => M.2.1 (162 + 3 * i + d)) → s_X3_latest 24 g cells p0 = j_X11_audit_1 M.2.1 p0 p1 := by
          intro d g cells hd hp hrg
          unfold j_X11_audit_1
          rcases rg_read hrg (by decide) v with ⟨y1, y2⟩ | ⟨q, bb, y1, y2, y3, y4, y5, y6⟩
          · rw [if_pos y1, y2]
          · rw [if_neg y5, y6]
            refine congrArg (fun k => (M.2.1 k).toInt32) ?_
            have x1 : (Int64.toInt32 (M.2.1 46) - 1) - p0 = nI (q - 1 - bb) := by
              rw [y3, nIL_back, y4, show (1 : Int32) = nI 1 from rfl, nI_minus (by omega) (by omega), nI_minus (by omega) (by omega)]
            have x2 : 3 * nI (q - 1 - bb) = nI (3 * (q - 1 - bb)) := nI_mul (a := 3) (by omega) (by omega) (by decide)
            rw [x1, hp, x2]
            have x3 : (162 : Int32) + nI (3 * (q - 1 - bb)) = nI (162 + 3 * (q - 1 - bb)) := nI_plus (a := 162) (by omega)
            rw [x3, nI_plus (by omega), nI_clamp (by omega)]
        rw [ea]
        refine congrArg Int32.toInt64 ?_
        unfold r_audit_2 s_X10_audit s_X10_audit_1 s_X9_property
        generalize p1.toInt.toNat = d at n1 n2
        match d, n1, n2 with
        | 0, n1, _ => rw [if_pos (show p1 = 0 by rw [n1]; rfl)]; exact core 0 _ _ (by decide) n1 hr.2.2.2.1.1
        | 1, n1, _ => rw [if_neg (show ¬ p1 = 0 by rw [n1]; decide), if_pos (show p1 = 1 by rw [n1]; rfl)]; exact core 1 _ _ (by decide) n1 hr.2.2.2.1.2.1
        | 2, n1, _ => rw [if_neg (show ¬ p1 = 0 by rw [n1]; decide), if_neg (show ¬ p1 = 1 by rw [n1]; decide)]; exact core 2 _ _ (by decide) n1 hr.2.2.2.1.2.2
        | d + 3, n1, n2 => exact absurd n2 (by omega)
theorem ok_history {l : Launch} (hl0 : l.stackTraces = false) (D : va_G) (cI cJ cO : ClassId) (z : zT) {X : kXS} {Y : kTS} {M : kMS} (b o : Nat) (u : Nat → Nat) (fo : Nat → Int64) (p0 : Int32) (h : rR X Y M) : lStep l D cI cJ cO z yL_history cL_history 4 [(0, 9, 12, 15)] [.ref b, .int p0, .ref o] b o u X Y fo (a_history M p0) ((q_history M p0).1 7) (fun X2 Y2 => rR X2 Y2 (q_history M p0)) := by
  obtain ⟨T, hT1, hT2, hr, hn⟩ := id h.1
  by_cases v : p0 < 0
  · have v2 : ¬ 0 ≤ p0 := fun z => absurd (Int32.lt_iff_toInt_lt.mp v) (by have := Int32.le_iff_toInt_le.mp z; omega)
    refine lSt_t (by decide) (by decide) (w_history_0 l hl0 D cI cJ cO z b o u X Y fo p0 v) rfl (by decide) ?_ h
    unfold q_history s_X11_history s_X11_history_2 s_X11_refuse
    rw [if_neg v2]
  · have v2 : 0 ≤ p0 := Int32.le_iff_toInt_le.mpr (by have a : ¬ p0.toInt < (0 : Int32).toInt := fun z => v (Int32.lt_iff_toInt_lt.mpr z); omega)
    refine lSt_r (by decide) (by decide) (w_history_1 l hl0 D cI cJ cO z b o u X Y fo p0 v) rfl ?_ ?_ h
    · unfold q_history s_X11_history s_X11_history_1
      rw [if_pos v2]
    · refine congrArg Int32.toInt64 ?_
      unfold r_history_1 s_X10_history a_history s_X11_history s_X11_history_1
      rw [if_pos v2]
      rcases rg_read hr.2.2.2.2.1 (by decide) v with ⟨y1, y2⟩ | ⟨q, bb, y1, y2, y3, y4, y5, y6⟩
      · rw [if_pos y1, y2]
      · rw [if_neg y5, y6]
        refine congrArg (fun k => (M.2.1 k).toInt32) ?_
        have x1 : ((234 + Int64.toInt32 (M.2.1 48)) - 1) - p0 = nI (234 + (q - 1 - bb)) := by
          rw [y3, nIL_back, y4, show (234 : Int32) = nI 234 from rfl, nI_plus (by omega), show (1 : Int32) = nI 1 from rfl, nI_minus (by omega) (by omega), nI_minus (by omega) (by omega)]
          congr 1; omega
        rw [x1, nI_clamp (by omega)]
theorem ok_auditCode {X : kXS} {Y : kTS} {M : kMS} (h : rR X Y M) : r_auditCode X = a_auditCode M := by
  obtain ⟨T, hT1, hT2, hr, hn⟩ := h.1
  exact hr.2.2.2.2.2.2
theorem ok_auditCode2 {X : kXS} {Y : kTS} {M : kMS} (h : rR X Y M) : rR (n_auditCode X) Y (q_auditCode M) := h.rd
theorem ok_clear {X : kXS} {Y : kTS} {M : kMS} (h : rR X Y M) : r_clear X = a_clear M := by
  obtain ⟨m, _, x1, x2, _⟩ := h.2.2
  exact x1.trans x2.symm
theorem ok_clear2 {X : kXS} {Y : kTS} {M : kMS} (h : rR X Y M) : rR (n_clear X) Y (q_clear M) := ⟨h.1, h.2.1, 0, by decide, rfl, rfl, fun i hi => absurd hi (Nat.not_lt_zero _)⟩
