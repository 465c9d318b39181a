
set_option maxRecDepth 100000 in
theorem k_known {s : State} {args : Array Value} (hts : ∀ w ∈ lw_tbl, w.before args s = true) : ∃ D : va_G, ∀ (k : Nat) (q : vw_C), vwCl[k]? = some q → u_Kn s q.1 q.2.1 q.2.2 (D.1 k) (D.2 k) := by
  have ha : ∀ w ∈ lw_all, w.before args s = true := fun w h => hts w (List.mem_filter.mp h).1
  obtain ⟨c0, j0, h0⟩ := u_known (C := RX0) (T := TX0) (N := 3) (n := 3) ha vX0.2.1 (hts (.instantiable RX0 3) (by decide +kernel))
  obtain ⟨c1, j1, h1⟩ := u_known (C := RX1) (T := TX1) (N := 14) (n := 14) ha vX1.2.1 (hts (.instantiable RX1 14) (by decide +kernel))
  obtain ⟨c2, j2, h2⟩ := u_known (C := RX2) (T := TX2) (N := 4) (n := 4) ha vX2.2.1 (hts (.instantiable RX2 4) (by decide +kernel))
  obtain ⟨c3, j3, h3⟩ := u_known (C := RX3) (T := TX3) (N := 3) (n := 3) ha vX3.2.1 (hts (.instantiable RX3 3) (by decide +kernel))
  obtain ⟨c4, j4, h4⟩ := u_known (C := RX4) (T := TX4) (N := 10) (n := 10) ha vX4.2.1 (hts (.instantiable RX4 10) (by decide +kernel))
  obtain ⟨c5, j5, h5⟩ := u_known (C := RX5) (T := TX5) (N := 3) (n := 3) ha vX5.2.1 (hts (.instantiable RX5 3) (by decide +kernel))
  obtain ⟨c6, j6, h6⟩ := u_known (C := RX6) (T := TX6) (N := 2) (n := 2) ha vX6.2.1 (hts (.instantiable RX6 2) (by decide +kernel))
  obtain ⟨c7, j7, h7⟩ := u_known (C := RX7) (T := TX7) (N := 11) (n := 11) ha vX7.2.1 (hts (.instantiable RX7 11) (by decide +kernel))
  obtain ⟨c8, j8, h8⟩ := u_known (C := RX8) (T := TX8) (N := 6) (n := 6) ha vX8.2.1 (hts (.instantiable RX8 6) (by decide +kernel))
  obtain ⟨c9, j9, h9⟩ := u_known (C := RX9) (T := TX9) (N := 4) (n := 4) ha vX9.2.1 (hts (.instantiable RX9 4) (by decide +kernel))
  obtain ⟨c10, j10, h10⟩ := u_known (C := RX10) (T := TX10) (N := 4) (n := 4) ha vX10.2.1 (hts (.instantiable RX10 4) (by decide +kernel))
  refine ⟨(fun k => match k with | 0 => c0 | 1 => c1 | 2 => c2 | 3 => c3 | 4 => c4 | 5 => c5 | 6 => c6 | 7 => c7 | 8 => c8 | 9 => c9 | _ => c10, fun k => match k with | 0 => j0 | 1 => j1 | 2 => j2 | 3 => j3 | 4 => j4 | 5 => j5 | 6 => j6 | 7 => j7 | 8 => j8 | 9 => j9 | _ => j10), ?_⟩
  intro k q hq
  match k, hq with
  | 0, hq => have e : q = (RX0, TX0, 3) := (Option.some.inj hq).symm; subst e; exact h0
  | 1, hq => have e : q = (RX1, TX1, 14) := (Option.some.inj hq).symm; subst e; exact h1
  | 2, hq => have e : q = (RX2, TX2, 4) := (Option.some.inj hq).symm; subst e; exact h2
  | 3, hq => have e : q = (RX3, TX3, 3) := (Option.some.inj hq).symm; subst e; exact h3
  | 4, hq => have e : q = (RX4, TX4, 10) := (Option.some.inj hq).symm; subst e; exact h4
  | 5, hq => have e : q = (RX5, TX5, 3) := (Option.some.inj hq).symm; subst e; exact h5
  | 6, hq => have e : q = (RX6, TX6, 2) := (Option.some.inj hq).symm; subst e; exact h6
  | 7, hq => have e : q = (RX7, TX7, 11) := (Option.some.inj hq).symm; subst e; exact h7
  | 8, hq => have e : q = (RX8, TX8, 6) := (Option.some.inj hq).symm; subst e; exact h8
  | 9, hq => have e : q = (RX9, TX9, 4) := (Option.some.inj hq).symm; subst e; exact h9
  | 10, hq => have e : q = (RX10, TX10, 4) := (Option.some.inj hq).symm; subst e; exact h10
  | n + 11, hq => exact absurd hq (by show ¬ (none = some q); exact fun h => nomatch h)
theorem k_arr {s : State} {args : Array Value} {ty : FieldType} (h : (Cond.arrayClass ty).before args s = true) : ∃ cA : ClassId, ArrOfT s cA ty ∧ s.vm.findClass ("[" ++ ty.toString) = some cA := by
  obtain ⟨c, k, comp, h1, h2, h3⟩ := Cond.arrayClass_spec h
  exact ⟨c, fun n z => ⟨fun k h => (by cases h), k, h2, comp, h3⟩, h1⟩
set_option maxRecDepth 100000 in
set_option maxHeartbeats 8000000 in
/-- the claim's walk -/
theorem law_whole {p : Program} {e : Env} {s : State} {m : MethodId} {below : List Frame} {meth : Method} {c : Code} (l : Launch) (hflags : l.flags = flags0) {b L : Nat} {xs : Nat → Int32} (hL : L ≤ 260) (C0 : lw_At p s m meth c b L xs) : W p l e room_1 s m #[Value.ref b] below meth c s.heap [] 0 0 (lw_Z below #[Value.ref b] s) (entryFrame m ([Value.ref b] : List Value).toArray 7) := by
  obtain ⟨hx, hb, hr, hml, hown, hts, hX, hbl, hlocks, hgv⟩ := id C0
  have hst : l.stackTraces = false := by unfold Launch.stackTraces; rw [hflags]; decide +kernel
  obtain ⟨z, hZ⟩ := k_env hts hgv
  obtain ⟨D, hKn⟩ := k_known hts
  obtain ⟨cI, aI, nI1⟩ := k_arr (hts (.arrayClass .int) (by decide +kernel))
  obtain ⟨cJ, aJ, nJ1⟩ := k_arr (hts (.arrayClass .byte) (by decide +kernel))
  obtain ⟨comp, cO, kO, h1, h2, h3, h4, h5⟩ := Cond.arrayOver_spec (hts (.arrayOver (.object "ClimateChamber$State")) (by decide +kernel))
  have C4 : KC p s m #[Value.ref b] meth c cL_law 7 RL ret D (kT cI cJ cO) (fun q => s.heap.size ≤ q) := by
    refine ⟨hx, hb, hml, hown, fun w h => hts w (List.mem_filter.mp h).1, ⟨hKn, ?_⟩, fun q h => h, hr, hlocks, kN.of hts⟩
    intro k q hq
    match k, hq with
    | 0, hq => have e : q = (cI, .int) := (Option.some.inj hq).symm; subst e; exact ⟨aI, nI1⟩
    | 1, hq => have e : q = (cJ, .byte) := (Option.some.inj hq).symm; subst e; exact ⟨aJ, nJ1⟩
    | 2, hq => have e : q = (cO, .object "ClimateChamber$State") := (Option.some.inj hq).symm; subst e; exact ⟨fun N z => ⟨(fun k h => by cases h), kO, h3, comp, h4⟩, kO, comp, h3, h4, h1, h5⟩
    | n + 3, hq => exact absurd hq (by show ¬ (none = some q); exact fun h => nomatch h)
  have hl := lv_entry ([.ref b]) (n := 7) (Nat.le_of_ble_eq_true rfl)
  rw [lg_entry_eq]
  generalize (lg_sl ([.ref b]) ++ List.replicate (7 - (lg_sl ([.ref b])).length) Slot.unset).toArray = ls at hl ⊢
  have hl : lv_has ls 7 [(0, .ref b)] := hl
  refine law_start hst C4 hZ hX hbl (Nat.not_le.mpr hbl) hL (Q := lw_Z below #[Value.ref b] s) (fun ws lv cells slots g1 g2 => ?_) s.heap [] ls (fun k q h => by simp at h) ⟨fun i j p q h => by simp at h, fun k q h => by simp at h⟩ va_S.rf hl
  intro H locs ls2 hP hD hS hl2
  refine va_forget hS.2.2 (W.widen (k := 600104) (n := 7301314) g1 g2 ?_)
  exact lw_ret hx hb hr hlocks dL_law_106