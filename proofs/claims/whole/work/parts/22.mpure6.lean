theorem fr_ofp {τ α : Type} {u s : τ} {w : Nat → α} {P : Nat → Prop} (pr : τ → Nat → α) (e : u = s) (h : ∀ k : Nat, P k → pr s k = w k) : ∀ k : Nat, P k → pr u k = w k := by subst e; exact h
theorem fr_X11_save_t (f : Nat → Int32) (sv w : Nat → Int64) (_h : kIn (f 5) 0 6) : ∀ k : Nat, (k ≠ 5) → (s_X11_save f sv w).1 k = f k := by
  intro k hk
  unfold s_X11_save s_X11_save_4 s_X11_save_3
  refine upn hk ?_
  unfold j_X11_save_2 j_X11_save_1
  split
  · exact upn hk rfl
  · rfl
theorem er_step (text : Nat → Int32) (x : Int32 × (Nat → Int32) × (Nat → Int32)) (h : kTI x.2.1) : (∀ y, b_X11_error_L19 text x = .inl y → kTI y.2.1) ∧ (∀ r, b_X11_error_L19 text x = .inr r → kTI r.2.1) := by
  unfold b_X11_error_L19
  by_cases hc : (x.2.1 6) ≤ x.1
  · rw [if_pos hc]
    unfold b_X11_error_t_1
    exact ⟨fun y e => (by cases e), fun r e => (by cases e; exact h)⟩
  · rw [if_neg hc]
    have ht := tk_inv x.2.1 text x.2.2 x.1 h
    generalize s_X11_takes x.2.1 text x.2.2 x.1 = u at ht
    unfold b_X11_error_t_2
    by_cases hu : u.1 = 0
    · rw [if_pos hu]
      exact ⟨fun y e => (by cases e), fun r e => (by cases e; exact ht)⟩
    · rw [if_neg hu]
      exact ⟨fun y e => (by cases e; exact ht), fun r e => (by cases e)⟩
theorem er_inv (f text told : Nat → Int32) (h : kIn (f 6) 0 90) : kTI (s_X11_error f text told).2.1 := by
  unfold s_X11_error
  refine kLoop_all (fun x : Int32 × (Nat → Int32) × (Nat → Int32) => kTI x.2.1) (fun r : Int32 × (Nat → Int32) × (Nat → Int32) => kTI r.2.1) ?_ (fun x y hx e => (er_step text x hx).1 y e) (fun x r hx e => (er_step text x hx).2 r e) _ (0, (upd (upd (upd f 8 0) 9 0) 12 (-10000)), told) (tk_init h _)
  show kTI (fun _ => (0 : Int32))
  unfold kTI
  exact ⟨⟨by decide, by decide⟩, ⟨by decide, by decide⟩, ⟨by decide, by decide⟩, ⟨by decide, by decide⟩⟩
theorem po_X11_error (f text told : Nat → Int32) (h : kIn (f 6) 0 90) : kIn ((s_X11_error f text told).2.1 8) 0 12 := (er_inv f text told h).2.1
theorem es_fr (f told : Nat → Int32) (k : Nat) (hk : k < 8 ∨ 14 ≤ k) : (s_X11_endSegment f told).1 k = f k := by
  unfold s_X11_endSegment s_X11_endSegment_4 s_X11_endSegment_3
  refine upn (by omega) (upn (by omega) ?_)
  unfold j_X11_endSegment_2 j_X11_endSegment_1
  split
  · split
    · exact upn (by omega) rfl
    · rfl
  · rfl
theorem tk_fr (f text told : Nat → Int32) (p0 : Int32) (k : Nat) (hk : k < 8 ∨ 14 ≤ k) : (s_X11_takes f text told p0).2.1 k = f k :=
  tk_2 f text told p0 (fun g => g k = f k) rfl (fun _ => upn (by omega) rfl) (fun _ => upn (by omega) rfl) (fun _ _ _ => upn (by omega) (upn (by omega) (upn (by omega) (upn (by omega) rfl)))) (fun _ => es_fr _ _ _ hk)
theorem fr_X11_error (f text told : Nat → Int32) (h : kIn (f 6) 0 90) : ∀ k : Nat, (k < 8 ∨ 14 ≤ k) → (s_X11_error f text told).2.1 k = f k := by
  intro k hk
  unfold s_X11_error
  refine kLoop_inv (fun x : Int32 × (Nat → Int32) × (Nat → Int32) => x.2.1 k = f k ∧ kIn x.1 0 90 ∧ kTI x.2.1) (fun r : Int32 × (Nat → Int32) × (Nat → Int32) => r.2.1 k = f k) (fun x => ((90 : Int) - Int32.toInt x.1).toNat) ?_ ?_ _ (0, (upd (upd (upd f 8 0) 9 0) 12 (-10000)), told) (Nat.lt_succ_self _) ⟨upn (by omega) (upn (by omega) (upn (by omega) rfl)), (show kIn (0 : Int32) 0 90 from ⟨by decide, by decide⟩), tk_init h _⟩
  · intro x y hP hy
    obtain ⟨h1, h2, h3⟩ := hP
    unfold b_X11_error_L19 at hy
    by_cases hc : (x.2.1 6) ≤ x.1
    · rw [if_pos hc] at hy
      unfold b_X11_error_t_1 at hy
      cases hy
    · rw [if_neg hc] at hy
      have ht := tk_inv x.2.1 text x.2.2 x.1 h3
      have hf := tk_fr x.2.1 text x.2.2 x.1 k hk
      generalize s_X11_takes x.2.1 text x.2.2 x.1 = u at ht hf hy
      unfold b_X11_error_t_2 at hy
      by_cases hu : u.1 = 0
      · rw [if_pos hu] at hy; cases hy
      · rw [if_neg hu] at hy
        cases hy
        have h5 := kIn.nleB h2 h3.1 hc
        exact ⟨⟨hf.trans h1, (kIn.add h5 (kIn.lit (x := 1) (n := 1) (by decide)) (by decide) (by decide)).wk (by decide) (by decide), ht⟩, kIn.dec h5 (by decide) (by decide) (Nat.lt_succ_self _)⟩
  · intro x r hP hr
    obtain ⟨h1, h2, h3⟩ := hP
    unfold b_X11_error_L19 at hr
    by_cases hc : (x.2.1 6) ≤ x.1
    · rw [if_pos hc] at hr
      unfold b_X11_error_t_1 at hr
      cases hr
      exact h1
    · rw [if_neg hc] at hr
      have hf := tk_fr x.2.1 text x.2.2 x.1 k hk
      generalize s_X11_takes x.2.1 text x.2.2 x.1 = u at hf hr
      unfold b_X11_error_t_2 at hr
      by_cases hu : u.1 = 0
      · rw [if_pos hu] at hr
        cases hr
        exact hf.trans h1
      · rw [if_neg hu] at hr; cases hr
