/-! frames of the reference's writers -/
theorem fr_of2 {α : Type} {u s : α × (Nat → Int64)} {w : Nat → Int64} {P : Nat → Prop} (e : u = s) (h : ∀ k : Nat, P k → s.2 k = w k) : ∀ k : Nat, P k → u.2 k = w k := by subst e; exact h
theorem kr_shift (w : Nat → Int64) (k : Nat) : (kLoop default (b_X11_keepResult_L16) ((Int32.toInt 60 - Int32.toInt 0).toNat + 1) (0, w)).2 k = if 98 ≤ k ∧ k < 98 + 60 then w (k + 4) else w k := by
  have e : (Int32.toInt 60 - Int32.toInt 0).toNat + 1 = 60 + 1 := by decide
  rw [e]
  refine kShift 98 4 60 w b_X11_keepResult_L16 (fun z => ?_) (by omega) (by omega) default k
  unfold b_X11_keepResult_L16
  rw [show (60 : Int32) = nI 60 from rfl, show (98 : Int32) = nI 98 from rfl, show (4 : Int32) = nI 4 from rfl]
theorem kr_pre (w : Nat → Int64) (k : Nat) : j_X11_keepResult_2 w k = if w 45 = 16 then (if k = 45 then w 45 - 1 else if 98 ≤ k ∧ k < 98 + 60 then w (k + 4) else w k) else w k := by
  unfold j_X11_keepResult_2
  by_cases h : w 45 = 16
  · rw [if_pos h, if_pos h]
    unfold j_X11_keepResult_1
    unfold vp_updL
    by_cases hk : k = 45
    · rw [if_pos hk, if_pos hk, kr_shift, if_neg (by omega)]
    · rw [if_neg hk, if_neg hk, kr_shift]
  · rw [if_neg h, if_neg h]
theorem kr_pre45 {w : Nat → Int64} (h : kInL (w 45) 0 16) : kInL (j_X11_keepResult_2 w 45) 0 15 := by
  rw [kr_pre]
  by_cases hc : w 45 = 16
  · rw [if_pos hc, if_pos rfl]
    exact (kInL.sub (kInL.eq (n := 16) hc (by decide)) (kInL.lit (x := 1) (n := 1) (by decide)) (by decide) (by decide)).wk (by decide) (by decide)
  · rw [if_neg hc]
    exact (kInL.neHi h hc (by decide)).wk (by decide) (by decide)
theorem kr_at {x : Nat → Int64} (h : kInL (x 45) 0 15) {j : Int32} {n : Int} (hj : j.toInt = n) (h0 : 0 ≤ n) (h2 : n ≤ 3) : kIn (98 + (4 * (Int64.toInt32 (x 45))) + j) 98 161 :=
  (kIn.add (kIn.add (kIn.lit (x := 98) (n := 98) (by decide)) (kIn.mul (n := 4) (by decide) (by decide) (kIn.l2i h (by decide) (by decide)) (by decide) (by decide)) (by decide) (by decide)) (kIn.lit hj) (by omega) (by omega)).wk (by omega) (by omega)
theorem kr_at0 {x : Nat → Int64} (h : kInL (x 45) 0 15) : kIn (98 + (4 * (Int64.toInt32 (x 45)))) 98 158 :=
  (kIn.add (kIn.lit (x := 98) (n := 98) (by decide)) (kIn.mul (n := 4) (by decide) (by decide) (kIn.l2i h (by decide) (by decide)) (by decide) (by decide)) (by decide) (by decide)).wk (by decide) (by decide)
theorem fr_X11_keepResult (f_t : Nat → Int32) (w : Nat → Int64) (hf : kInL (w 45) 0 16) : ∀ k : Nat, ((k < 98 ∨ 162 ≤ k) ∧ k ≠ 45) → s_X11_keepResult f_t w k = w k := by
  intro k hk
  have hx := kr_pre45 hf
  unfold s_X11_keepResult
  have hp : j_X11_keepResult_2 w k = w k := by
    rw [kr_pre]
    by_cases hc : w 45 = 16
    · rw [if_pos hc, if_neg hk.2, if_neg (by omega)]
    · rw [if_neg hc]
  generalize j_X11_keepResult_2 w = x at hx hp
  unfold s_X11_keepResult_3
  exact upnL hk.2 (upnL ((kr_at hx (j := 3) (n := 3) (by decide) (by decide) (by decide)).ne (by decide) (by omega)) (upnL ((kr_at hx (j := 2) (n := 2) (by decide) (by decide) (by decide)).ne (by decide) (by omega)) (upnL ((kr_at hx (j := 1) (n := 1) (by decide) (by decide) (by decide)).ne (by decide) (by omega)) (upnL ((kr_at0 hx).ne (by decide) (by omega)) hp))))
theorem fr_X11_output (f_t : Nat → Int32) (w : Nat → Int64) (hf : kInL (w 46) 0 24) : ∀ k : Nat, ((k < 162 ∨ 234 ≤ k) ∧ k ≠ 46 ∧ k ≠ 47 ∧ k ≠ 29 ∧ k ≠ 30) → (s_X11_output f_t w).2 k = w k := by
  intro k hk
  unfold s_X11_output
  by_cases h16 : w 16 = 1
  · rw [if_pos h16]; exact upnL hk.2.2.2.2 rfl
  · rw [if_neg h16]
    generalize j_X11_output_1 f_t w = x8
    unfold s_X11_output_8 s_X11_output_7 s_X11_output_6 s_X11_output_5
    refine upnL hk.2.2.2.2 ?_
    unfold j_X11_output_4
    by_cases h8 : x8 = 0
    · rw [if_pos h8]
    · rw [if_neg h8]
      by_cases h30 : w 30 = 0
      · rw [if_pos h30]
        unfold j_X11_output_3 j_X11_output_2
        rw [fr_X11_enter _ _ _ _ (by rw [pk_uLn (by decide)]; exact hf) k ⟨hk.1, hk.2.1, hk.2.2.1⟩]
        exact upnL hk.2.2.2.1 rfl
      · rw [if_neg h30]
        exact upnL hk.2.2.2.1 rfl
theorem po_X11_output (f_t : Nat → Int32) (w : Nat → Int64) (hf : kInL (w 46) 0 24) : kInL ((s_X11_output f_t w).2 46) 0 24 := by
  unfold s_X11_output
  by_cases h16 : w 16 = 1
  · rw [if_pos h16]; exact kInL.rw (F := vp_updL w 30 0) (k := 46) (t := w 46) (upnL (by decide) rfl) hf (by decide) (by decide)
  · rw [if_neg h16]
    generalize j_X11_output_1 f_t w = x8
    unfold s_X11_output_8 s_X11_output_7 s_X11_output_6 s_X11_output_5
    dsimp only
    rw [pk_uLn (by decide)]
    unfold j_X11_output_4
    by_cases h8 : x8 = 0
    · rw [if_pos h8]; exact hf
    · rw [if_neg h8]
      by_cases h30 : w 30 = 0
      · rw [if_pos h30]
        unfold j_X11_output_3 j_X11_output_2
        exact po_X11_enter _ _ _ _ (by rw [pk_uLn (by decide)]; exact hf)
      · rw [if_neg h30, pk_uLn (by decide)]; exact hf
/-- 'of' sees the segment's number and the segments alone -/
theorem of_ix {w : Nat → Int64} (h : kInL (w 35) 0 11) : ∃ j : Nat, j ≤ 11 ∧ Int64.toInt32 (w 35) = nI j := by
  obtain ⟨a, b⟩ := kIn.l2i h (by decide) (by decide)
  refine ⟨(Int64.toInt32 (w 35)).toInt.toNat, by omega, ?_⟩
  refine Int32.toInt_inj.mp ?_
  rw [nI_toInt (by omega)]
  omega
theorem of_at (j d : Nat) (hj : j ≤ 11) (hd : d ≤ 3) : Int32.toNatClampNeg ((50 + (4 * nI j)) + nI d) = 50 + 4 * j + d := by
  rw [show (50 : Int32) = nI 50 from rfl, show (4 : Int32) = nI 4 from rfl, pk_mul, nI_add, nI_add, nI_clamp (by omega)]
theorem of2_fr {f g : Nat → Int32} {w v : Nat → Int64} (h : kInL (w 35) 0 11) (e : ∀ k : Nat, (k = 35 ∨ (50 ≤ k ∧ k < 98)) → v k = w k) : s_X11_of_p0_2 g v = s_X11_of_p0_2 f w := by
  unfold s_X11_of_p0_2
  obtain ⟨j, hj, hw⟩ := of_ix h
  rw [e 35 (Or.inl rfl), hw, show (2 : Int32) = nI 2 from rfl, of_at j 2 hj (by omega)]
  exact e _ (Or.inr ⟨by omega, by omega⟩)
theorem nz_mp {x : Int32} {p : Prop} {hp : Decidable p} (e : x = if p then 1 else 0) (h : ¬ x = 0) : p := by
  by_cases q : p
  · exact q
  · rw [if_neg q] at e; exact absurd e h
theorem kInL.ltB {x y : Int64} {a b c d : Int} (h : kInL x a b) (k : kInL y c d) (hlt : x < y) : kInL x a (d - 1) := by
  have := Int64.lt_iff_toInt_lt.mp hlt
  exact ⟨h.1, by have := k.2; omega⟩
theorem kInL.nleB {x y : Int64} {a b c d : Int} (h : kInL x a b) (k : kInL y c d) (hlt : ¬ y ≤ x) : kInL x a (d - 1) := by
  have : ¬ y.toInt ≤ x.toInt := fun z => hlt (Int64.le_iff_toInt_le.mpr z)
  exact ⟨h.1, by have := k.2; omega⟩
theorem kInL.gtB {x y : Int64} {a b c d : Int} (h : kInL x a b) (k : kInL y c d) (hlt : y < x) : kInL x (c + 1) b := by
  have := Int64.lt_iff_toInt_lt.mp hlt
  exact ⟨by have := k.1; omega, h.2⟩
