
/-! THE CLAIM OUT OF ONE WALK OF THE LAW'S BODY. Your part is whole_start (and what it stands on); all else here is the same for every law, but numbers. -/
def R_law : String := "ClimateChamberLaw"
def lw_P (b : Addr) (xs : List Int32) (args : Array Value) (s : State) : Prop := args = #[.ref b] ∧ s.IntsAt b xs ∧ xs.length ≤ 260 ∧ (Jvm.Cond.and given_1 narrow_1).before args s = true
def lw_Q (_ : Array Value) (s : State) (o : Outcome) (t : State) : Prop := o = .returned (some (.int 1)) ∧ Framed s o t [] 600104 7301314
def lw_Z (below : List Frame) (a : Array Value) (s : State) : State → Prop := fun t => ∃ o, t.status = .running ∧ Ended t below o ∧ lw_Q a s o t
/-- the law's own end, with 1 on the stack, nothing written that was there before, its room as the claim has it -/
theorem lw_ret {p : Program} {l : Launch} {e : Env} {s : State} {m : MethodId} {below : List Frame} {meth : Method} {c : Code} {b : Nat} (hx : p.tables.exec = Jvm.exec) (hb : c.code = code) (hr : meth.sig.returnType = ret) (hlocks : meth.locks = false) {pc : Nat} {H : Heap} {ls : Array Slot} (hdg : decode code pc = .ok (.ireturn, 1)) : W p l e room_1 s m #[Value.ref b] below meth c H [] 600104 7301314 (lw_Z below #[Value.ref b] s) (F0 m pc ls [.int 1]) := by
  intro T hT X
  obtain ⟨fs, hret, hrun, hended, hW, hframe⟩ := X.leave (v := some (.int 1)) (hlocks := hlocks) (fun h => by rw [hr] at h; cases h)
  have hmeth' : T.vm.method? m = some meth := X.method'
  refine ⟨T.setFrames fs, ?_, .returned (some (.int 1)), hrun, hended, rfl, ⟨_, rfl⟩, hW, hframe⟩
  jvm_step X.here [X.here.top, hx, hb, hdg, hmeth', hr, ret, narrow_b1]
  (try refine ⟨rfl, ?_⟩); (try refine ⟨rfl, ?_⟩)
  first | (intro acts; rw [hret _ acts rfl rfl rfl]) | rw [hret _ _ rfl rfl rfl]
  exact Steps.refl _
/-- what holds at the law's entry: the machine, the code, the tables' words (any of lw_tbl by 'hts w (by decide +kernel)'), the script of L ints xs at the cell b, what the Statement gives of the start (any of its parts by flat_of_before) -/
def lw_At (p : Program) (s : State) (m : MethodId) (meth : Method) (c : Code) (b L : Nat) (xs : Nat → Int32) : Prop :=
  p.tables.exec = Jvm.exec ∧ c.code = code ∧ meth.sig.returnType = ret ∧ c.maxLocals = 7 ∧ s.vm.findClass R_law = some m.cls ∧ (∀ w ∈ lw_tbl, w.before #[Value.ref b] s = true) ∧ va_X b L xs s s.heap ∧ b < s.heap.size ∧ meth.locks = false ∧ (Jvm.Cond.and given_1 narrow_1).before #[Value.ref b] s = true

set_option maxRecDepth 100000 in
set_option maxHeartbeats 8000000 in
theorem k_env {s : State} {args : Array Value} (hts : ∀ w ∈ lw_tbl, w.before args s = true) (hgv : (Jvm.Cond.and given_1 narrow_1).before args s = true) : ∃ z, kZ z (fun q => s.heap.size ≤ q) s s.heap := by
  have hs := flat_of_before _ hgv
  have hA : ∀ a : Nat, a < s.heap.size → ¬ (fun q => s.heap.size ≤ q) a := fun a h => Nat.not_le.mpr h
  have hel0 : ∀ j : Nat, j < 12 → (Term.elem (.static RX10 "INITIAL_SETTINGS" "[I") (.int (Int32.ofNat j))).eval args s none [] s = some (.int (zI j)) := by
    intro j hj
    match j, hj with
    | 0, _ => exact va_eqt (hs _ (by decide +kernel))
    | 1, _ => exact va_eqt (hs _ (by decide +kernel))
    | 2, _ => exact va_eqt (hs _ (by decide +kernel))
    | 3, _ => exact va_eqt (hs _ (by decide +kernel))
    | 4, _ => exact va_eqt (hs _ (by decide +kernel))
    | 5, _ => exact va_eqt (hs _ (by decide +kernel))
    | 6, _ => exact va_eqt (hs _ (by decide +kernel))
    | 7, _ => exact va_eqt (hs _ (by decide +kernel))
    | 8, _ => exact va_eqt (hs _ (by decide +kernel))
    | 9, _ => exact va_eqt (hs _ (by decide +kernel))
    | 10, _ => exact va_eqt (hs _ (by decide +kernel))
    | 11, _ => exact va_eqt (hs _ (by decide +kernel))
    | n + 12, h => exact absurd h (by omega)
  have hle0 : (Term.length (.static RX10 "INITIAL_SETTINGS" "[I")).eval args s none [] s = some (.int (Int32.ofNat 12)) := va_eqt (hs _ (by decide +kernel))
  obtain ⟨t0, e0, T0⟩ := va_Tof (s := s) (tm := (.static RX10 "INITIAL_SETTINGS" "[I")) (ty := .int) (N := 12) (f := fun k => .int (zI k)) (A := fun q => s.heap.size ≤ q) (by decide) (hs _ (by decide +kernel)) hle0 hel0 hA
  have Z0 : va_Z RX10 "INITIAL_SETTINGS" "[I" (.ref t0) (fun q => s.heap.size ≤ q) s s.heap := va_Zof (hts _ (by decide +kernel)) (hts _ (by decide +kernel)) e0 hA
  have hel1 : ∀ j : Nat, j < 12 → (Term.elem (.static RX10 "LEAST_SETTINGS" "[I") (.int (Int32.ofNat j))).eval args s none [] s = some (.int (zL j)) := by
    intro j hj
    match j, hj with
    | 0, _ => exact va_eqt (hs _ (by decide +kernel))
    | 1, _ => exact va_eqt (hs _ (by decide +kernel))
    | 2, _ => exact va_eqt (hs _ (by decide +kernel))
    | 3, _ => exact va_eqt (hs _ (by decide +kernel))
    | 4, _ => exact va_eqt (hs _ (by decide +kernel))
    | 5, _ => exact va_eqt (hs _ (by decide +kernel))
    | 6, _ => exact va_eqt (hs _ (by decide +kernel))
    | 7, _ => exact va_eqt (hs _ (by decide +kernel))
    | 8, _ => exact va_eqt (hs _ (by decide +kernel))
    | 9, _ => exact va_eqt (hs _ (by decide +kernel))
    | 10, _ => exact va_eqt (hs _ (by decide +kernel))
    | 11, _ => exact va_eqt (hs _ (by decide +kernel))
    | n + 12, h => exact absurd h (by omega)
  have hle1 : (Term.length (.static RX10 "LEAST_SETTINGS" "[I")).eval args s none [] s = some (.int (Int32.ofNat 12)) := va_eqt (hs _ (by decide +kernel))
  obtain ⟨t1, e1, T1⟩ := va_Tof (s := s) (tm := (.static RX10 "LEAST_SETTINGS" "[I")) (ty := .int) (N := 12) (f := fun k => .int (zL k)) (A := fun q => s.heap.size ≤ q) (by decide) (hs _ (by decide +kernel)) hle1 hel1 hA
  have Z1 : va_Z RX10 "LEAST_SETTINGS" "[I" (.ref t1) (fun q => s.heap.size ≤ q) s s.heap := va_Zof (hts _ (by decide +kernel)) (hts _ (by decide +kernel)) e1 hA
  have hel2 : ∀ j : Nat, j < 12 → (Term.elem (.static RX10 "GREATEST_SETTINGS" "[I") (.int (Int32.ofNat j))).eval args s none [] s = some (.int (zG j)) := by
    intro j hj
    match j, hj with
    | 0, _ => exact va_eqt (hs _ (by decide +kernel))
    | 1, _ => exact va_eqt (hs _ (by decide +kernel))
    | 2, _ => exact va_eqt (hs _ (by decide +kernel))
    | 3, _ => exact va_eqt (hs _ (by decide +kernel))
    | 4, _ => exact va_eqt (hs _ (by decide +kernel))
    | 5, _ => exact va_eqt (hs _ (by decide +kernel))
    | 6, _ => exact va_eqt (hs _ (by decide +kernel))
    | 7, _ => exact va_eqt (hs _ (by decide +kernel))
    | 8, _ => exact va_eqt (hs _ (by decide +kernel))
    | 9, _ => exact va_eqt (hs _ (by decide +kernel))
    | 10, _ => exact va_eqt (hs _ (by decide +kernel))
    | 11, _ => exact va_eqt (hs _ (by decide +kernel))
    | n + 12, h => exact absurd h (by omega)
  have hle2 : (Term.length (.static RX10 "GREATEST_SETTINGS" "[I")).eval args s none [] s = some (.int (Int32.ofNat 12)) := va_eqt (hs _ (by decide +kernel))
  obtain ⟨t2, e2, T2⟩ := va_Tof (s := s) (tm := (.static RX10 "GREATEST_SETTINGS" "[I")) (ty := .int) (N := 12) (f := fun k => .int (zG k)) (A := fun q => s.heap.size ≤ q) (by decide) (hs _ (by decide +kernel)) hle2 hel2 hA
  have Z2 : va_Z RX10 "GREATEST_SETTINGS" "[I" (.ref t2) (fun q => s.heap.size ≤ q) s s.heap := va_Zof (hts _ (by decide +kernel)) (hts _ (by decide +kernel)) e2 hA
  obtain ⟨s0, -, -, -, f0, -⟩ := Cond.exactly_spec (args := args) (first := s) (o := none) (s := s) (idx := []) (t := .string RX10 262) (cls := "java/lang/String") (hs _ (by decide +kernel))
  obtain ⟨s1, -, -, -, f1, -⟩ := Cond.exactly_spec (args := args) (first := s) (o := none) (s := s) (idx := []) (t := .string RX10 269) (cls := "java/lang/String") (hs _ (by decide +kernel))
  obtain ⟨s2, -, -, -, f2, -⟩ := Cond.exactly_spec (args := args) (first := s) (o := none) (s := s) (idx := []) (t := .string RX10 274) (cls := "java/lang/String") (hs _ (by decide +kernel))
  have hT : kTz t0 (fun q => s.heap.size ≤ q) s s.heap := by
    obtain ⟨t, cell, ht, hat, hv⟩ := Term.length_spec hle0
    cases e0.symm.trans ht
    have hlt : cell.slots.size < 2147483648 := by
      have h := hle0
      simp only [Term.eval, Option.bind_eq_bind] at h
      have e9 : (Term.static RX10 "INITIAL_SETTINGS" "[I").eval args s none [] s = some (.ref t0) := e0
      simp only [Term.eval, Option.bind_eq_bind] at e9
      rw [e9] at h
      simp only [Option.bind_some, hat] at h
      by_cases hn : cell.slots.size < 2147483648
      · exact hn
      · rw [if_neg hn] at h; cases h
    have hsz : cell.slots.size = 12 := by
      have h1 : Int32.ofNat 12 = Int32.ofNat cell.slots.size := Value.int.inj hv
      have h2 := congrArg Int32.toNatClampNeg h1
      rw [Int32.toNatClampNeg_ofNat_of_lt (by decide), Int32.toNatClampNeg_ofNat_of_lt hlt] at h2
      exact h2.symm
    obtain ⟨hcell, hkn, h9, h8⟩ := State.arrayAt?_spec hat
    obtain ⟨a2, c, cA, kA, q1, q2, q3, q4, q5, q6, -⟩ := Cond.exactly_spec (args := args) (first := s) (o := none) (s := s) (idx := []) (t := .static RX10 "INITIAL_SETTINGS" "[I") (cls := "[I") (hs _ (by decide +kernel))
    cases e0.symm.trans q1
    cases hcell.symm.trans q3
    obtain ⟨cell3, g1, g2, g3, g4, g5, g6, g7⟩ := T0
    cases hcell.symm.trans g1
    exact ⟨cell, hcell, hkn, (fun k e => by rw [e] at q5; cases q5), hsz, g6, by rw [q6]; exact q2, g7⟩
  refine ⟨(t0, t1, t2, s0, s1, s2), ⟨Z0, Z1, Z2⟩, ⟨T0, T1, T2⟩, ⟨vx_Zqof (hts _ (by decide +kernel)) (hts _ (by decide +kernel)) (hs _ (by decide +kernel)) hA, vx_Zqof (hts _ (by decide +kernel)) (hts _ (by decide +kernel)) (hs _ (by decide +kernel)) hA⟩, ⟨vk_R.of (hts _ (by decide +kernel)) f0, vk_R.of (hts _ (by decide +kernel)) f1, vk_R.of (hts _ (by decide +kernel)) f2⟩, ⟨va_Nc.of (hs _ (by decide +kernel)), va_Nc.of (hs _ (by decide +kernel)), va_Nc.of (hs _ (by decide +kernel))⟩, kCst.of hts, hT, va_AO.of (hts _ (by decide +kernel))⟩