
/-! doubles -/
abbrev kQd (D : va_G) (tys : List (ClassId × FieldType)) (sz : Nat) (ws : va_W) (r : UInt64) (ws' : va_W) := va_Qd (fun (r' : UInt64) (_ : Unit) => r' = r) (fun _ => kB D tys ws' (va_A ws sz)) (va_A ws sz)
def kD (l : Launch) (y : MethodName) (code : ByteArray) (nL : Nat) (rt : FieldType) (F L : Nat) (D : va_G) (tys : List (ClassId × FieldType)) (av : List Value) (ws : va_W) (r : UInt64) (ws' : va_W) : Prop :=
  ∀ sz : Nat, Met l y (.code y code nL (some rt) :: lw_all) (kR F L) (va_Pc av (kPc D tys sz ws)) (kQd D tys sz ws r ws') 0 0 (va_A ws sz)
/-! a quotient of two whole numbers, the second not zero, is no NaN -/
def fpFin (d : FP.Core.Datum) : Prop := ∃ s c q, d = .fin s c q ∧ c < 2 ^ 53 ∧ q ≤ 971
theorem fp_enc_lt {d : FP.Core.Datum} (h : fpFin d ∨ ∃ s, d = .inf s) : FP.Core.encode FP.Core.b64 d % 2 ^ 63 ≤ 2047 * 2 ^ 52 ∧ FP.Core.encode FP.Core.b64 d < 2 ^ 64 := by
  rcases h with ⟨s, c, q, rfl, hc, hq⟩ | ⟨s, rfl⟩
  · have ht : FP.Core.b64.tails = 2 ^ 52 := rfl
    have he : FP.Core.b64.exps = 2 ^ 11 := rfl
    have hm : FP.Core.b64.qmin = -1074 := rfl
    have hs : s.toNat ≤ 1 := by cases s <;> decide
    unfold FP.Core.encode FP.Core.assemble
    rw [ht, he, hm]
    show (if c < 2 ^ 52 then (s.toNat * 2 ^ 11 + 0) * 2 ^ 52 + c else (s.toNat * 2 ^ 11 + ((q - -1074).toNat + 1)) * 2 ^ 52 + (c - 2 ^ 52)) % 2 ^ 63 ≤ 2047 * 2 ^ 52 ∧ (if c < 2 ^ 52 then (s.toNat * 2 ^ 11 + 0) * 2 ^ 52 + c else (s.toNat * 2 ^ 11 + ((q - -1074).toNat + 1)) * 2 ^ 52 + (c - 2 ^ 52)) < 2 ^ 64
    split <;> omega
  · cases s <;> exact ⟨by decide, by decide⟩
theorem fp_no {d : FP.Core.Datum} (h : fpFin d ∨ ∃ s, d = .inf s) : vf_n64 (UInt64.ofNat (FP.Core.encode FP.Core.b64 d)) := by
  obtain ⟨h1, h2⟩ := fp_enc_lt h
  unfold vf_n64
  rw [UInt64.le_iff_toNat_le, UInt64.toNat_and, UInt64.toNat_ofNat_of_lt' h2]
  show FP.Core.encode FP.Core.b64 d &&& (2 ^ 63 - 1) ≤ _
  rw [Nat.and_two_pow_sub_one_eq_mod]
  exact h1
theorem fp_rr (s : Bool) (n d : Nat) (e : Int) : fpFin (FP.Core.roundRatio FP.Core.b64 s n d e) ∨ ∃ s2, FP.Core.roundRatio FP.Core.b64 s n d e = .inf s2 := by
  unfold FP.Core.roundRatio
  split
  · exact Or.inl ⟨s, 0, _, rfl, by decide, by decide⟩
  · unfold FP.Core.roundAt FP.Core.settle FP.Core.bound
    split
    · split
      · exact Or.inl ⟨_, _, _, rfl, by assumption, by assumption⟩
      · exact Or.inr ⟨_, rfl⟩
    · split
      · exact Or.inl ⟨_, _, _, rfl, by decide, by assumption⟩
      · exact Or.inr ⟨_, rfl⟩
theorem fp_dec {s : Bool} {c : Nat} {q : Int} (hc : c < 2 ^ 53) (hq : q ≤ 971) : ∃ s2 c2 q2, FP.Core.decode FP.Core.b64 (FP.Core.encode FP.Core.b64 (.fin s c q)) = .fin s2 c2 q2 ∧ (¬ c = 0 → ¬ c2 = 0) := by
  have ht : FP.Core.b64.tails = 2 ^ 52 := rfl
  have he : FP.Core.b64.exps = 2 ^ 11 := rfl
  have hm : FP.Core.b64.qmin = -1074 := rfl
  have hs : s.toNat ≤ 1 := by cases s <;> decide
  have key : ∃ E T : Nat, E < 2047 ∧ T < 2 ^ 52 ∧ FP.Core.encode FP.Core.b64 (.fin s c q) = (s.toNat * 2 ^ 11 + E) * 2 ^ 52 + T ∧ (E = 0 → T = c) := by
    unfold FP.Core.encode FP.Core.assemble
    rw [ht, he, hm]
    show ∃ E T : Nat, E < 2047 ∧ T < 2 ^ 52 ∧ (if c < 2 ^ 52 then (s.toNat * 2 ^ 11 + 0) * 2 ^ 52 + c else (s.toNat * 2 ^ 11 + ((q - -1074).toNat + 1)) * 2 ^ 52 + (c - 2 ^ 52)) = _ ∧ _
    split
    · exact ⟨0, c, by decide, by assumption, rfl, fun _ => rfl⟩
    · exact ⟨(q - -1074).toNat + 1, c - 2 ^ 52, by omega, by omega, rfl, fun h => by omega⟩
  obtain ⟨E, T, h1, h2, h3, h4⟩ := key
  rw [h3]
  have hE : FP.Core.fieldE FP.Core.b64 ((s.toNat * 2 ^ 11 + E) * 2 ^ 52 + T) = E := by
    unfold FP.Core.fieldE
    rw [ht, he]
    omega
  have hT : FP.Core.fieldT FP.Core.b64 ((s.toNat * 2 ^ 11 + E) * 2 ^ 52 + T) = T := by
    unfold FP.Core.fieldT
    rw [ht]
    omega
  unfold FP.Core.decode
  rw [hE, hT, ht, he, hm]
  rw [if_neg (by omega)]
  split
  · exact ⟨_, _, _, rfl, fun h => by rw [h4 (by assumption)]; exact h⟩
  · exact ⟨_, _, _, rfl, fun _ => by omega⟩
theorem fp_int {v : Int} (hv : v.natAbs < 2 ^ 64) : ∃ s c q, FP.Core.round FP.Core.b64 (FP.Core.ofInt v) = .fin s c q ∧ c < 2 ^ 53 ∧ q ≤ 971 ∧ (¬ v = 0 → ¬ c = 0) := by
  have hm : FP.Core.b64.qmin = -1074 := rfl
  have hM : FP.Core.b64.qmax = 971 := rfl
  have hp : FP.Core.b64.p = 53 := rfl
  have ht : FP.Core.b64.tails = 2 ^ 52 := rfl
  show ∃ s c q, FP.Core.roundRatio FP.Core.b64 (decide (v < 0)) v.natAbs 1 0 = .fin s c q ∧ _
  unfold FP.Core.roundRatio
  by_cases h0 : v.natAbs = 0
  · rw [if_pos h0]
    exact ⟨_, _, _, rfl, by decide, by decide, fun h => absurd (Int.natAbs_eq_zero.mp h0) h⟩
  · rw [if_neg h0]
    generalize v.natAbs = n at *
    have hL1 : 2 ^ n.log2 ≤ n := Nat.log2_self_le h0
    have hL2 : n.log2 < 64 := (Nat.log2_lt h0).mpr hv
    have hlead : FP.Core.leading n 1 = (n.log2 : Int) := by
      have h1 : Nat.log2 1 = 0 := by decide
      unfold FP.Core.leading
      rw [h1]
      show (if 1 * 2 ^ ((n.log2 : Int) - (0 : Int)).toNat ≤ n * 2 ^ (-((n.log2 : Int) - (0 : Int))).toNat then ((n.log2 : Int) - (0 : Int)) else _) = _
      rw [if_pos]
      · omega
      · have a : ((n.log2 : Int) - (0 : Int)).toNat = n.log2 := by omega
        have b : (-((n.log2 : Int) - (0 : Int))).toNat = 0 := by omega
        rw [a, b]
        omega
    have hq : FP.Core.quantum FP.Core.b64 n 1 0 = (n.log2 : Int) - 52 := by
      unfold FP.Core.quantum
      rw [hlead, hm, hp]
      omega
    rw [hq]
    unfold FP.Core.roundAt
    have hpos : 1 ≤ FP.Core.nearest (FP.Core.unitsNum n 0 ((n.log2 : Int) - 52)) (FP.Core.unitsDen 1 0 ((n.log2 : Int) - 52)) := by
      have hd : FP.Core.unitsDen 1 0 ((n.log2 : Int) - 52) ≤ FP.Core.unitsNum n 0 ((n.log2 : Int) - 52) := by
        unfold FP.Core.unitsDen FP.Core.unitsNum
        have a : 2 ^ ((n.log2 : Int) - 52 - 0).toNat ≤ 2 ^ n.log2 := Nat.pow_le_pow_right (by decide) (by omega)
        have b : 1 ≤ 2 ^ ((0 : Int) - ((n.log2 : Int) - 52)).toNat := Nat.one_le_two_pow
        calc 1 * 2 ^ ((n.log2 : Int) - 52 - 0).toNat ≤ n := by omega
          _ = n * 1 := (Nat.mul_one _).symm
          _ ≤ _ := Nat.mul_le_mul_left _ b
      have hdp : 0 < FP.Core.unitsDen 1 0 ((n.log2 : Int) - 52) := by
        unfold FP.Core.unitsDen
        rw [Nat.one_mul]
        exact Nat.two_pow_pos _
      have h1 : 1 ≤ FP.Core.unitsNum n 0 ((n.log2 : Int) - 52) / FP.Core.unitsDen 1 0 ((n.log2 : Int) - 52) := (Nat.one_le_div_iff hdp).mpr hd
      unfold FP.Core.nearest
      split
      · exact h1
      · split <;> omega
    generalize FP.Core.nearest (FP.Core.unitsNum n 0 ((n.log2 : Int) - 52)) (FP.Core.unitsDen 1 0 ((n.log2 : Int) - 52)) = c at hpos
    unfold FP.Core.settle FP.Core.bound
    rw [hM, hp, ht]
    split
    · rw [if_pos (by omega)]
      exact ⟨_, _, _, rfl, by assumption, by omega, fun _ => by omega⟩
    · rw [if_pos (by omega)]
      exact ⟨_, _, _, rfl, by decide, by omega, fun _ => by decide⟩
theorem fp_dint {v : Int} (hv : v.natAbs < 2 ^ 64) : ∃ s c q, FP.Core.decode FP.Core.b64 (UInt64.ofNat (FP.Core.fromInt FP.Core.b64 v)).toNat = .fin s c q ∧ (¬ v = 0 → ¬ c = 0) := by
  obtain ⟨s, c, q, h1, h2, h3, h4⟩ := fp_int hv
  have hl := (fp_enc_lt (Or.inl ⟨s, c, q, rfl, h2, h3⟩)).2
  obtain ⟨s2, c2, q2, h5, h6⟩ := fp_dec (s := s) h2 h3
  refine ⟨s2, c2, q2, ?_, fun h => h6 (h4 h)⟩
  unfold FP.Core.fromInt
  rw [h1, UInt64.toNat_ofNat_of_lt' hl, h5]
theorem fp_quot {x y : Int} (hx : x.natAbs < 2 ^ 64) (hy : y.natAbs < 2 ^ 64) (h : ¬ y = 0) : vf_n64 (FP.Core.ddiv (UInt64.ofNat (FP.Core.fromInt FP.Core.b64 x)) (UInt64.ofNat (FP.Core.fromInt FP.Core.b64 y))) := by
  obtain ⟨s1, c1, q1, e1, -⟩ := fp_dint hx
  obtain ⟨s2, c2, q2, e2, n2⟩ := fp_dint hy
  unfold FP.Core.ddiv FP.Core.div
  rw [e1, e2]
  refine fp_no ?_
  show fpFin (if c2 = 0 then _ else _) ∨ ∃ s, (if c2 = 0 then _ else _) = _
  rw [if_neg (n2 h)]
  exact fp_rr _ _ _ _
theorem k_qI {x y : Int32} (h : ¬ y = 0) : vf_n64 (FP.ddiv (FP.i2d x) (FP.i2d y)) :=
  fp_quot (by have := x.toInt_lt; have := x.le_toInt; omega) (by have := y.toInt_lt; have := y.le_toInt; omega) (fun e => h (Int32.toInt_inj.mp e))
theorem k_qL {x y : Int64} (h : ¬ y = 0) : vf_n64 (FP.ddiv (FP.l2d x) (FP.l2d y)) :=
  fp_quot (by have := x.toInt_lt; have := x.le_toInt; omega) (by have := y.toInt_lt; have := y.le_toInt; omega) (fun e => h (Int64.toInt_inj.mp e))
theorem fp_i2l {x : Int32} {y : Int64} (h : x.toInt = y.toInt) : FP.i2d x = FP.l2d y := by
  show UInt64.ofNat (FP.Core.fromInt _ x.toInt) = UInt64.ofNat (FP.Core.fromInt _ y.toInt)
  rw [h]
/-- a number is equal to itself -/
theorem fp_eq {x : UInt64} (h : vf_n64 x) : FP.dcmp x x = some .eq := by
  have hd : FP.Core.decode FP.Core.b64 x.toNat ≠ .nan := by
    intro e
    unfold vf_n64 at h
    rw [UInt64.le_iff_toNat_le, UInt64.toNat_and] at h
    replace h : x.toNat &&& (2 ^ 63 - 1) ≤ 2047 * 2 ^ 52 := h
    rw [Nat.and_two_pow_sub_one_eq_mod] at h
    have ht : FP.Core.b64.tails = 2 ^ 52 := rfl
    have he : FP.Core.b64.exps = 2 ^ 11 := rfl
    unfold FP.Core.decode FP.Core.fieldE FP.Core.fieldT at e
    rw [ht, he] at e
    split at e
    · split at e
      · cases e
      · omega
    · split at e <;> cases e
  show FP.Core.order (FP.Core.decode FP.Core.b64 x.toNat) (FP.Core.decode FP.Core.b64 x.toNat) = some .eq
  generalize FP.Core.decode FP.Core.b64 x.toNat = d at hd
  have hc : ∀ i : Int, compare i i = .eq := fun i => Std.ReflCmp.compare_self
  cases d with
  | nan => exact absurd rfl hd
  | inf s => show some (compare _ _) = _; rw [hc]
  | fin s c q => show some (compare _ _) = _; rw [hc]
theorem fp_self {x : UInt64} (h : vf_n64 x) : Op.cmpValue (FP.dcmp x x) .l = 0 := by rw [fp_eq h]; rfl

section DBL
variable {p : Program} {l : Launch} {e : Env} {R : Room} {s : State} {m : MethodId} {args : Array Value} {below : List Frame} {meth : Method} {c : Code} {cells slots : Nat} {Q : State → Prop} {D : va_G} {A : Nat → Prop} {nL : Nat} {cc : ByteArray} {own : String} {ret : Option FieldType} {tys : List (ClassId × FieldType)} {ws : va_W} {lv : List (Nat × Value)} {st : List Value} {pc : Nat} {z : zT}
theorem k_dret {ws0 ws2 : va_W} {v r : UInt64} (C : KC p s m args meth c cc nL own (some .double) D tys (va_A ws0 s.heap.size)) (hr : v = r) (hw : ws = ws2) (hd : decode cc pc = .ok (.dreturn, 1)) : KJ p l e R s m args below meth c 0 0 (MQ below (kQd D tys s.heap.size ws0 r ws2) args s 0 0 (va_A ws0 s.heap.size)) D (va_A ws0 s.heap.size) nL ws lv [.double v] pc := by
  intro H locs ls hP hD hS hl
  subst hr hw
  exact W.dret C.1 C.2.1 C.2.2.2.2.2.2.2.1 (fun t ht hW => ⟨⟨_, (), rfl, rfl, by rw [ht]; exact hP, va_K.moved hW.alike C.2.2.2.2.2.1, hD⟩, hS.F ht⟩) hS.2.2 hd C.2.2.2.2.2.2.2.2.1
theorem kD_of {y : MethodName} {code : ByteArray} {F L : Nat} {av : List Value} {ws2 : va_W} {r : UInt64} (hown : y.cls = own) (hlv : lv_args 0 av = lv) (hy : plainName y.cls = true) (hn : (lg_sl av).length ≤ nL) (body : ∀ (p : Program) (e : Env) (s : State) (m : MethodId) (args : Array Value) (below : List Frame) (meth : Method) (c : Code) (Q : State → Prop) (A : Nat → Prop), KC p s m args meth c code nL own (some .double) D tys A → (∀ (lv2 : List (Nat × Value)) (pc : Nat), decode code pc = .ok (.dreturn, 1) → KJ p l e (kR F L) s m args below meth c 0 0 Q D A nL ws2 lv2 [.double r] pc) → KJ p l e (kR F L) s m args below meth c 0 0 Q D A nL ws lv [] 0) : kD l y code nL .double F L D tys av ws r ws2 := by
  subst hown hlv
  intro sz
  refine Met.ofW (cc := code) (maxL := nL) (ret := (some .double)) hy rfl ?_
  intro p e s m args below meth c s₁ B hml hv
  obtain ⟨rfl, hsz, hP, hK, hD0, hN⟩ := hv
  subst hsz
  have hts := atoms_spec (ws := .code y code nL (some .double) :: lw_all) B.pre
  have hl := lv_entry av (n := nL) hn
  rw [lg_entry_eq]
  exact body p e s m _ below meth c _ _ ⟨B.exec, B.bytes, hml, findClass_of_methodNamed B.named, fun w h => hts w (List.mem_cons_of_mem _ h), hK, fun q h => Or.inr h, B.returns, B.notSynchronized, hN⟩ (fun lv2 pc hd => k_dret ⟨B.exec, B.bytes, hml, findClass_of_methodNamed B.named, fun w h => hts w (List.mem_cons_of_mem _ h), hK, fun q h => Or.inr h, B.returns, B.notSynchronized, hN⟩ rfl rfl hd) s.heap [] _ hP hD0.self va_S.rf hl
theorem k_finD {v r : UInt64} {ws2 : va_W} (hret : ∀ (lv2 : List (Nat × Value)) (pc : Nat), decode cc pc = .ok (.dreturn, 1) → KJ p l e R s m args below meth c cells slots Q D A nL ws2 lv2 [.double r] pc) (hr : v = r) (hw : ws = ws2) (hd : decode cc pc = .ok (.dreturn, 1)) : KJ p l e R s m args below meth c cells slots Q D A nL ws lv [.double v] pc := by
  subst hr hw
  exact hret _ _ hd
theorem k_callVd (C : KC p s m args meth c cc nL own ret D tys A) {b : Nat} {As rest : List Value} {index n : Nat} {y : MethodName} {bytes : ByteArray} {maxL F L : Nat} {wc wc2 ws2 : va_W} {r : UInt64} (hM : kD l y bytes maxL .double F L D tys (.ref b :: As) wc r wc2) (cw : kCWv y bytes maxL (some .double) n) (hlk : Cond.methodLink own index y ∈ lw_all) {ci : Nat} {T : u_T} {N : Nat} {ty0 : Nat → FieldType} {fs : List Value} (X : kCls ci y.cls T N ty0) (q0 : Nat) (hrv : ws[q0]? = some (b, .inr (ci, fs))) (isC : List Nat) (hC : isC.map (fun i => ws[i]?) = wc.map some) (ha : wc2.map (fun q => q.1) = wc.map (fun q => q.1)) (hnd : va_nd isC = true) (hw : kput ws isC wc2 = ws2) (hst : st = As.reverse ++ .ref b :: rest) (hcat : (rest.map fun v => v.category).sum ≤ 8) (hR : F + 1 ≤ R.frames ∧ 8 + (maxL + 11) + L ≤ R.locals) (hn : As.length = n) (hcs : cells ≤ R.cells ∧ slots ≤ R.slots) (hd : decode cc pc = .ok (.invokevirtual index, 3)) (h : KJ p l e R s m args below meth c cells slots Q D A nL ws2 lv (.double r :: rest) (pc + 3)) : KJ p l e R s m args below meth c cells slots Q D A nL ws lv st pc := by
  intro H locs ls hP hD hS hl
  obtain ⟨hx, hb, hml, hown, hts, hK, hA, hr0, hlks, hN⟩ := C
  have hDc : va_D A wc := hD.sub isC hnd hC
  have hPc : va_P D vwCl wc H := by
    intro k q hk
    have h1 : (isC.map (fun i => ws[i]?))[k]? = some (some q) := by rw [hC, List.getElem?_map, hk]; rfl
    rw [List.getElem?_map] at h1
    cases hi : isC[k]? with
    | none => rw [hi] at h1; cases h1
    | some i => rw [hi] at h1; exact hP i q (Option.some.inj h1)
  have hFc := va_free (wc := wc) hD hS hA isC hC
  obtain ⟨⟨c1, c2, c3⟩, c4, c5⟩ := cw
  have hcw : CallW R s args own y.cls index y bytes maxL (some .double) (.code y bytes maxL (some .double) :: lw_all) (kR F L) 0 0 n := ⟨callB_of n hts (k_goodIn c1) rfl rfl rfl (hts _ c2) (hts _ hlk) c3 hR, hts _ c4, hts _ c5⟩
  refine va_calld (va_runV (As := As) (rest := rest) ⟨hx, hb, hml, hown, hts⟩ (hM H.size) hcw ⟨fun a U g mk q => ⟨q.1, q.2.1, q.2.2.1, q.2.2.2.1, q.2.2.2.2.1, kN.same (u := U) rfl q.2.2.2.2.2⟩, va_recv hK hP X.1 hrv, fun U hU hW => ⟨rfl, by rw [hU], by rw [hU]; exact hPc, va_K.moved hW.alike hK, hDc.weaken (fun _ _ _ _ => trivial), hN.warm hW⟩⟩ rfl hn hl.1 hst (lv_room hcat) hd ⟨hcs.1, hcs.2⟩) hS (fun q _ h => hFc q h) hFc (fun r2 u t H1 locs1 ht hvm hw2 hB hz1 hk1 hS1 => ?_)
  obtain ⟨hP1, hK1, hD1⟩ := hB
  rw [ht] at hP1
  subst hw2
  obtain ⟨hP2, hD2⟩ := k_back hP hD isC hC ha hnd hw hk1 hP1
  exact h H1 locs1 ls hP2 hD2 hS1 hl
theorem k_dconst0 (C : KC p s m args meth c cc nL own ret D tys A) (hd : decode cc pc = .ok (.dconst 0, 1)) (h : KJ p l e R s m args below meth c cells slots Q D A nL ws lv (.double FP.dconst0 :: st) (pc + 1)) : KJ p l e R s m args below meth c cells slots Q D A nL ws lv st pc := fun H locs ls hP hD hS hl => lv_dconst0 C.1 C.2.1 hd (h H locs ls hP hD hS hl)
theorem k_i2d (C : KC p s m args meth c cc nL own ret D tys A) {x : Int32} (hd : decode cc pc = .ok (.i2d, 1)) (h : KJ p l e R s m args below meth c cells slots Q D A nL ws lv (.double (FP.i2d x) :: st) (pc + 1)) : KJ p l e R s m args below meth c cells slots Q D A nL ws lv (.int x :: st) pc := fun H locs ls hP hD hS hl => lv_i2d C.1 C.2.1 hd (h H locs ls hP hD hS hl)
theorem k_l2d (C : KC p s m args meth c cc nL own ret D tys A) {x : Int64} (hd : decode cc pc = .ok (.l2d, 1)) (h : KJ p l e R s m args below meth c cells slots Q D A nL ws lv (.double (FP.l2d x) :: st) (pc + 1)) : KJ p l e R s m args below meth c cells slots Q D A nL ws lv (.long x :: st) pc := fun H locs ls hP hD hS hl => lv_l2d C.1 C.2.1 hd (h H locs ls hP hD hS hl)
theorem k_ddiv (C : KC p s m args meth c cc nL own ret D tys A) {x y : UInt64} (hne : vf_n64 (FP.ddiv x y)) (hd : decode cc pc = .ok (.ddiv, 1)) (h : KJ p l e R s m args below meth c cells slots Q D A nL ws lv (.double (FP.ddiv x y) :: st) (pc + 1)) : KJ p l e R s m args below meth c cells slots Q D A nL ws lv (.double y :: .double x :: st) pc := fun H locs ls hP hD hS hl => lv_ddiv C.1 C.2.1 hd hne (h H locs ls hP hD hS hl)
theorem k_dcmp (C : KC p s m args meth c cc nL own ret D tys A) {x y : UInt64} {op : CmpOp} (hd : decode cc pc = .ok (.dcmp op, 1)) (h : KJ p l e R s m args below meth c cells slots Q D A nL ws lv (.int (Op.cmpValue (FP.dcmp x y) op) :: st) (pc + 1)) : KJ p l e R s m args below meth c cells slots Q D A nL ws lv (.double y :: .double x :: st) pc := fun H locs ls hP hD hS hl => lv_dcmp C.1 C.2.1 hd (h H locs ls hP hD hS hl)
abbrev dA (cD : ClassId) (n : Nat) (f : Nat → UInt64) : va_E := .inl (cD, n, .inr (.inr (.inr (.inl f))))
def kT4 (cI cJ cO cD : ClassId) : List (ClassId × FieldType) := kT cI cJ cO ++ [(cD, .double)]
theorem KC.t4 {cI cJ cO cD : ClassId} (C : KC p s m args meth c cc nL own ret D (kT4 cI cJ cO cD) A) : KC p s m args meth c cc nL own ret D (kT cI cJ cO) A :=
  ⟨C.1, C.2.1, C.2.2.1, C.2.2.2.1, C.2.2.2.2.1, ⟨C.2.2.2.2.2.1.1, fun k q h => C.2.2.2.2.2.1.2 k q (by unfold kT4; rw [List.getElem?_append_left (List.getElem?_eq_some_iff.mp h).1]; exact h)⟩, C.2.2.2.2.2.2⟩
theorem k_daldK (C : KC p s m args meth c cc nL own ret D tys A) {cA : ClassId} {n a k : Nat} {f : Nat → UInt64} {i : Int32} {v : UInt64} (q0 t0 : Nat) (ha : ws[q0]? = some (a, .inl (cA, n, .inr (.inr (.inr (.inl f)))))) (ht : tys[t0]? = some (cA, .double)) (hin : vp_in i n) (hk : i.toNatClampNeg = k) (hv : f k = v) (hd : decode cc pc = .ok (.daload, 1)) (h : KJ p l e R s m args below meth c cells slots Q D A nL ws lv (.double v :: st) (pc + 1)) : KJ p l e R s m args below meth c cells slots Q D A nL ws lv (.int i :: .ref a :: st) pc := fun H locs ls hP hD hS hl => va_dald C.1 C.2.1 C.2.2.2.2.2.1 hP q0 t0 ha ht hin hd (by rw [hk, hv]; exact h H locs ls hP hD hS hl)
theorem k_dastK (C : KC p s m args meth c cc nL own ret D tys A) {cA : ClassId} {n a k : Nat} {f : Nat → UInt64} {i : Int32} {x : UInt64} {ws2 : va_W} (q0 t0 : Nat) (ha : ws[q0]? = some (a, .inl (cA, n, .inr (.inr (.inr (.inl f)))))) (ht : tys[t0]? = some (cA, .double)) (hin : vp_in i n) (hk : i.toNatClampNeg = k) (hw : ws.set q0 (a, .inl (cA, n, .inr (.inr (.inr (.inl (vf_upd f k x)))))) = ws2) (hd : decode cc pc = .ok (.dastore, 1)) (h : KJ p l e R s m args below meth c cells slots Q D A nL ws2 lv st (pc + 1)) : KJ p l e R s m args below meth c cells slots Q D A nL ws lv (.double x :: .int i :: .ref a :: st) pc := by
  intro H locs ls hP hD hS hl
  subst hw
  subst hk
  exact va_dast C.1 C.2.1 C.2.2.2.2.2.1 hP hD hS q0 t0 ha ht hin hd (fun H1 locs1 hP1 hD1 hS1 => h H1 locs1 ls hP1 hD1 hS1 hl)
theorem k_newD (C : KC p s m args meth c cc nL own ret D tys A) {n : Int32} {N t0 : Nat} {cJ : ClassId} (ht : tys[t0]? = some (cJ, .double)) (harr : Cond.arrayClass .double ∈ lw_all) (hn : ¬ n < 0) (hN : n.toNatClampNeg = N) (hb4 : N * 8 ≤ 536870912) (hcs : cells + 1 ≤ R.cells ∧ slots + N ≤ R.slots) (hd : decode cc pc = .ok (.newarray .double, 2)) (h : ∀ q : Nat, KJ p l e R s m args below meth c (cells + 1) (slots + N) Q D A nL (ws ++ [(q, dA cJ N (fun _ => 0))]) lv (.ref q :: st) (pc + 2)) : KJ p l e R s m args below meth c cells slots Q D A nL ws lv (.int n :: st) pc := by
  intro H locs ls hP hD hS hl
  obtain ⟨hx, hb, hml, hown, hts, hK, hA, hr0, hlks, hNs⟩ := C
  refine va_newa (atype := .double) (ty := .double) (a0 := (N, .inr (.inr (.inr (.inl (fun _ => 0)))))) hx hb (hts _ harr) rfl hK hP hD hS hA (fun cA => rfl) hn hN (by show N * componentBytes .double ≤ _; exact hb4) hcs.1 hcs.2 hd (fun q cA H1 hK1 hP1 hD1 hS1 => ?_)
  have e : cA = cJ := by
    have h1 : s.vm.findClass ("[" ++ (FieldType.double).toString) = some cJ := (hK.2 t0 _ ht).2
    have h2 : s.vm.findClass ("[" ++ (FieldType.double).toString) = some cA := (hK1.2 tys.length (cA, .double) (by rw [List.getElem?_append_right (Nat.le_refl _), Nat.sub_self]; rfl)).2
    exact Option.some.inj (h2.symm.trans h1)
  subst e
  exact h q H1 locs ls hP1 hD1 hS1 hl
theorem k_callWi (C : KC p s m args meth c cc nL own ret D tys A) (hZ : kZ z A s s.heap) {As rest : List Value} {index n : Nat} {y : MethodName} {bytes : ByteArray} {maxL F L mc ms : Nat} {hh : List (Nat × Nat × Nat × Nat)} {wc wr : va_W} {S : Type} {ws2 : S → va_W} {r : Int32} (hM : kWi l y bytes maxL hh F L mc ms D tys z As wc r ws2) (cw : Cond.codeWith y bytes maxL (some .int) hh ∈ lw_all ∧ Cond.initialized y.cls ∈ lw_all ∧ Cond.static y ∈ lw_all ∧ (y.cls ≠ "java/lang/invoke/MethodHandle" ∧ y.cls ≠ "java/lang/invoke/VarHandle" ∧ (parseMethodDescriptor y.desc).map (fun d => d.parameters.length) = some n)) (hlk : Cond.methodLink own index y ∈ lw_all) (hpm : ws.Perm (wc ++ wr)) (hst : st = As.reverse ++ rest) (hcat : (rest.map fun v => v.category).sum ≤ 8) (hR : F + 1 ≤ R.frames ∧ 8 + (maxL + 11) + L ≤ R.locals) (hn : As.length = n) (hcs : cells + mc ≤ R.cells ∧ slots + ms ≤ R.slots) (hd0 : decode cc pc = .ok (.invokestatic index, 3)) (h : ∀ u : S, KJ p l e R s m args below meth c (cells + mc) (slots + ms) Q D A nL (wr ++ ws2 u) lv (.int r :: rest) (pc + 3)) : KJ p l e R s m args below meth c cells slots Q D A nL ws lv st pc := by
  intro H locs ls hP hD hS hl
  obtain ⟨hx, hb, hml, hown, hts, hK, hA, hr0, hlks, hN⟩ := C
  have hP' := hP.perm hpm
  have hD' := hD.perm hpm
  have hPc : va_P D vwCl wc H := hP'.left
  have hDc : va_D A wc := hD'.left
  have hFc := va_free2 hDc hS hA
  obtain ⟨c1, c2, c3, c4⟩ := cw
  have hG := fun (w : Cond) (h2 : w ∈ lw_all) => And.intro h2 (good_of_word (k_good _ h2))
  have hg : GoodIn lw_all (va_wsS own index y (.codeWith y bytes maxL (some .int) hh :: lw_all)) := by
    intro w hw
    unfold va_wsS at hw
    simp only [List.cons_append, List.nil_append, List.mem_cons, List.mem_append, List.not_mem_nil, or_false, false_or] at hw
    rcases hw with rfl | rfl | rfl | hw
    all_goals first | exact hG _ hlk | exact hG _ c3 | exact hG _ c2 | exact hG _ c1 | exact hG _ hw | skip
    all_goals (rcases hw with rfl | hw <;> first | exact hG _ c1 | exact hG _ hw)
  have hcw := vx_cwSW (R := R) (rm := kRc F L mc ms) (mc := mc) (ms := ms) n hts hg rfl rfl rfl c4 hR
  refine va_calli (vx_runSW (As := As) (rest := rest) ⟨hx, hb, hml, hown, hts⟩ (hM H.size) hcw ⟨fun a U g mk q => ⟨q.1, ⟨q.2.1.1, q.2.1.2.1, q.2.1.2.2.1, q.2.1.2.2.2.1, kN.same (u := U) rfl q.2.1.2.2.2.2⟩, kZ.same (u := U) rfl q.2.2⟩, fun U hU hW => ⟨rfl, ⟨by rw [hU], by rw [hU]; exact hPc, va_K.moved hW.alike hK, hDc.weaken (fun _ _ _ _ => trivial), hN.warm hW⟩, by rw [hU]; exact kZ.go hW hS hFc hZ⟩⟩ rfl hn hl.1 hst (lv_room hcat) hd0 hcs) hS (fun q _ h => hFc q h) hFc (fun r2 u t H1 locs1 ht hvm hw2 hB hz1 hk1 hS1 => ?_)
  obtain ⟨hP1, hK1, hD1⟩ := hB
  rw [ht] at hP1
  subst hw2
  obtain ⟨hP2, hD2⟩ := k_joinP hP' hD' hk1 hFc hP1 hD1
  exact h u H1 locs1 ls hP2 hD2 hS1 hl
end DBL
theorem k_meanNz {f : Nat → Int32} {w : Nat → Int64} {x : Int32} (h0 : ¬ w 48 = 0) (h1 : kInL (w 48) 0 60) (h2 : ¬ s_X11_in x.toInt64 1 60 = 0) : ¬ w 48 - (s_X11_from f w x).toInt64 = 0 := by
  have hx := kIn.inb h2 (a1 := 1) (a2 := 1) (b1 := 60) (b2 := 60) ⟨by decide, by decide⟩ ⟨by decide, by decide⟩
  intro e
  have e2 : (w 48 - (s_X11_from f w x).toInt64).toInt = 0 := by rw [e]; rfl
  unfold s_X11_from s_X11_from_1 at e2
  by_cases h : w 48 ≤ x.toInt64
  · rw [if_pos h] at e2
    have h3 := kInL.sub (x := w 48) (y := (0 : Int32).toInt64) (a := (w 48).toInt) (b := (w 48).toInt) (c := 0) (d := 0) ⟨Int.le_refl _, Int.le_refl _⟩ ⟨by decide, by decide⟩ (by have := h1.1; omega) (by have := h1.2; omega)
    rw [kInL, e2] at h3
    exact h0 (Int64.toInt_inj.mp (show (w 48).toInt = 0 by omega))
  · rw [if_neg h] at e2
    have h4 := Int64.lt_iff_toInt_lt.mp (kLnle h)
    rw [Int32.toInt_toInt64] at h4
    have hm : kIn (Int64.toInt32 (w 48)) (w 48).toInt (w 48).toInt := kIn.l2i ⟨Int.le_refl _, Int.le_refl _⟩ (by have := h1.1; omega) (by have := h1.2; omega)
    have h5 := kIn.sub hm (a := (w 48).toInt) (b := (w 48).toInt) (c := x.toInt) (d := x.toInt) ⟨Int.le_refl _, Int.le_refl _⟩ (by have := hx.1; have := hx.2; have := h1.1; omega) (by have := hx.1; have := h1.2; omega)
    have h6 := kInL.sub (x := w 48) (a := (w 48).toInt) (b := (w 48).toInt) ⟨Int.le_refl _, Int.le_refl _⟩ (kInL.i2l h5) (by have := hx.1; omega) (by have := hx.2; omega)
    rw [kInL, e2] at h6
    have := hx.1
    omega
theorem dX11_mean_0 : decode cX11_mean 0 = .ok (.aload_n 0, 1) := by decide +kernel
theorem dX11_mean_1 : decode cX11_mean 1 = .ok (.iconst 0, 1) := by decide +kernel
theorem dX11_mean_2 : decode cX11_mean 2 = .ok (.putfield 50, 3) := by decide +kernel
theorem dX11_mean_5 : decode cX11_mean 5 = .ok (.iload_n 1, 1) := by decide +kernel
theorem dX11_mean_6 : decode cX11_mean 6 = .ok (.i2l, 1) := by decide +kernel
theorem dX11_mean_7 : decode cX11_mean 7 = .ok (.lconst 1, 1) := by decide +kernel
theorem dX11_mean_8 : decode cX11_mean 8 = .ok (.ldc2_w 42, 3) := by decide +kernel
theorem dX11_mean_11 : decode cX11_mean 11 = .ok (.invokestatic 63, 3) := by decide +kernel
theorem dX11_mean_14 : decode cX11_mean 14 = .ok (.ifCond .ne 10, 3) := by decide +kernel
theorem dX11_mean_17 : decode cX11_mean 17 = .ok (.aload_n 0, 1) := by decide +kernel
theorem dX11_mean_18 : decode cX11_mean 18 = .ok (.iconst 1, 1) := by decide +kernel
theorem dX11_mean_19 : decode cX11_mean 19 = .ok (.invokevirtual 67, 3) := by decide +kernel
theorem dX11_mean_22 : decode cX11_mean 22 = .ok (.i2d, 1) := by decide +kernel
theorem dX11_mean_23 : decode cX11_mean 23 = .ok (.dreturn, 1) := by decide +kernel
theorem dX11_mean_24 : decode cX11_mean 24 = .ok (.lconst 0, 1) := by decide +kernel
theorem dX11_mean_25 : decode cX11_mean 25 = .ok (.lstore_n 2, 1) := by decide +kernel
theorem dX11_mean_26 : decode cX11_mean 26 = .ok (.aload_n 0, 1) := by decide +kernel
theorem dX11_mean_27 : decode cX11_mean 27 = .ok (.iload_n 1, 1) := by decide +kernel
theorem dX11_mean_28 : decode cX11_mean 28 = .ok (.invokevirtual 181, 3) := by decide +kernel
theorem dX11_mean_31 : decode cX11_mean 31 = .ok (.istore 4, 2) := by decide +kernel
theorem dX11_mean_33 : decode cX11_mean 33 = .ok (.iload 4, 2) := by decide +kernel
theorem dX11_mean_35 : decode cX11_mean 35 = .ok (.i2l, 1) := by decide +kernel
theorem dX11_mean_36 : decode cX11_mean 36 = .ok (.aload_n 0, 1) := by decide +kernel
theorem dX11_mean_37 : decode cX11_mean 37 = .ok (.getfield 7, 3) := by decide +kernel
theorem dX11_mean_40 : decode cX11_mean 40 = .ok (.bipush 48, 2) := by decide +kernel
theorem dX11_mean_42 : decode cX11_mean 42 = .ok (.laload, 1) := by decide +kernel
theorem dX11_mean_43 : decode cX11_mean 43 = .ok (.lcmp, 1) := by decide +kernel
theorem dX11_mean_44 : decode cX11_mean 44 = .ok (.ifCond .ge 23, 3) := by decide +kernel
theorem dX11_mean_47 : decode cX11_mean 47 = .ok (.lload_n 2, 1) := by decide +kernel
theorem dX11_mean_48 : decode cX11_mean 48 = .ok (.aload_n 0, 1) := by decide +kernel
theorem dX11_mean_49 : decode cX11_mean 49 = .ok (.getfield 7, 3) := by decide +kernel
theorem dX11_mean_52 : decode cX11_mean 52 = .ok (.sipush 234, 3) := by decide +kernel
theorem dX11_mean_55 : decode cX11_mean 55 = .ok (.iload 4, 2) := by decide +kernel
theorem dX11_mean_57 : decode cX11_mean 57 = .ok (.iadd, 1) := by decide +kernel
theorem dX11_mean_58 : decode cX11_mean 58 = .ok (.laload, 1) := by decide +kernel
theorem dX11_mean_59 : decode cX11_mean 59 = .ok (.ladd, 1) := by decide +kernel
theorem dX11_mean_60 : decode cX11_mean 60 = .ok (.lstore_n 2, 1) := by decide +kernel
theorem dX11_mean_61 : decode cX11_mean 61 = .ok (.iinc 4 1, 3) := by decide +kernel
theorem dX11_mean_64 : decode cX11_mean 64 = .ok (.goto (-31), 3) := by decide +kernel
theorem dX11_mean_67 : decode cX11_mean 67 = .ok (.aload_n 0, 1) := by decide +kernel
theorem dX11_mean_68 : decode cX11_mean 68 = .ok (.getfield 7, 3) := by decide +kernel
theorem dX11_mean_71 : decode cX11_mean 71 = .ok (.bipush 48, 2) := by decide +kernel
theorem dX11_mean_73 : decode cX11_mean 73 = .ok (.laload, 1) := by decide +kernel
theorem dX11_mean_74 : decode cX11_mean 74 = .ok (.lconst 0, 1) := by decide +kernel
theorem dX11_mean_75 : decode cX11_mean 75 = .ok (.lcmp, 1) := by decide +kernel
theorem dX11_mean_76 : decode cX11_mean 76 = .ok (.ifCond .ne 7, 3) := by decide +kernel
theorem dX11_mean_79 : decode cX11_mean 79 = .ok (.dconst 0, 1) := by decide +kernel
theorem dX11_mean_80 : decode cX11_mean 80 = .ok (.goto 21, 3) := by decide +kernel
theorem dX11_mean_83 : decode cX11_mean 83 = .ok (.lload_n 2, 1) := by decide +kernel
theorem dX11_mean_84 : decode cX11_mean 84 = .ok (.l2d, 1) := by decide +kernel
theorem dX11_mean_85 : decode cX11_mean 85 = .ok (.aload_n 0, 1) := by decide +kernel
theorem dX11_mean_86 : decode cX11_mean 86 = .ok (.getfield 7, 3) := by decide +kernel
theorem dX11_mean_89 : decode cX11_mean 89 = .ok (.bipush 48, 2) := by decide +kernel
theorem dX11_mean_91 : decode cX11_mean 91 = .ok (.laload, 1) := by decide +kernel
theorem dX11_mean_92 : decode cX11_mean 92 = .ok (.aload_n 0, 1) := by decide +kernel
theorem dX11_mean_93 : decode cX11_mean 93 = .ok (.iload_n 1, 1) := by decide +kernel
theorem dX11_mean_94 : decode cX11_mean 94 = .ok (.invokevirtual 181, 3) := by decide +kernel
theorem dX11_mean_97 : decode cX11_mean 97 = .ok (.i2l, 1) := by decide +kernel
theorem dX11_mean_98 : decode cX11_mean 98 = .ok (.lsub, 1) := by decide +kernel
theorem dX11_mean_99 : decode cX11_mean 99 = .ok (.l2d, 1) := by decide +kernel
theorem dX11_mean_100 : decode cX11_mean 100 = .ok (.ddiv, 1) := by decide +kernel
theorem dX11_mean_101 : decode cX11_mean 101 = .ok (.dreturn, 1) := by decide +kernel
def b_X11_mean_L33 (f_t_w : Nat → Int64) (z_6 : Int32 × Int64) : (Int32 × Int64) ⊕ (Int32 × Int64) :=
  (if (f_t_w 48) ≤ (Int32.toInt64 z_6.1) then (Sum.inr (z_6.1, z_6.2)) else (Sum.inl ((z_6.1 + 1), (z_6.2 + (f_t_w (Int32.toNatClampNeg (234 + z_6.1)))))))
def s_X11_mean_1 (u_11 : Int32 × (Nat → Int32)) : UInt64 × (Nat → Int32) :=
  ((FP.i2d u_11.1), u_11.2)
def s_X11_mean_2 (f_t_w : Nat → Int64) (f_t : Nat → Int32) (p0 : Int32) (m_9 : Int32 × Int64) : UInt64 × (Nat → Int32) :=
  (if (f_t_w 48) = 0 then (FP.dconst0, (upd f_t 7 0)) else ((FP.ddiv (FP.l2d m_9.2) (FP.l2d ((f_t_w 48) - (Int32.toInt64 (s_X11_from (upd f_t 7 0) f_t_w p0))))), (upd f_t 7 0)))
def s_X11_mean (f_t : Nat → Int32) (f_t_w : Nat → Int64) (p0 : Int32) : UInt64 × (Nat → Int32) :=
  (if (s_X11_in (Int32.toInt64 p0) 1 60) = 0 then (s_X11_mean_1 (s_X11_refuse (upd f_t 7 0) 1)) else (s_X11_mean_2 f_t_w f_t p0 (kLoop default (b_X11_mean_L33 f_t_w) (((60 : Int) - Int32.toInt (s_X11_from (upd f_t 7 0) f_t_w p0)).toNat + 1) ((s_X11_from (upd f_t 7 0) f_t_w p0), 0))))
set_option maxRecDepth 100000 in
set_option maxHeartbeats 4000000 in
theorem c_X11_mean (l : Launch) (D : va_G) (cI cJ cO : ClassId) (h_t : Nat) (h_t_w : Nat) (h_t_saved : Nat) (h_t_trial : Nat) (h_t_text : Nat) (h_t_told : Nat) (f_t : Nat → Int32) (f_t_w : Nat → Int64) (p0 : Int32) (hf_t_w_48 : kInL (f_t_w 48) 0 60) : kD l yX11_mean cX11_mean 5 .double 1 25 D (kT cI cJ cO) [.ref h_t, .int p0] [(h_t, moE f_t h_t_w h_t_saved h_t_trial h_t_text h_t_told), (h_t_w, jA cJ 294 f_t_w)] ((s_X11_mean f_t f_t_w p0).1) [(h_t, moE (s_X11_mean f_t f_t_w p0).2 h_t_w h_t_saved h_t_trial h_t_text h_t_told), (h_t_w, jA cJ 294 f_t_w)] := by
  refine kD_of (own := RX11) (lv := [(0, .ref h_t), (1, .int p0)]) rfl rfl (by decide) (Nat.le_of_ble_eq_true rfl) ?_
  intro p e s m args below meth c Q A C hret
  refine k_aload_n (pc := 0) C rfl 0 rfl dX11_mean_0 ?_
  refine k_iconst (pc := 1) C iconst_0 dX11_mean_1 ?_
  refine p_X11_7 (pc := 2) (ws2 := [(h_t, moE (upd f_t 7 0) h_t_w h_t_saved h_t_trial h_t_text h_t_told), (h_t_w, jA cJ 294 f_t_w)]) C q_1005 0 rfl rfl dX11_mean_2 ?_
  refine k_iload_n (pc := 5) C rfl 1 rfl dX11_mean_5 ?_
  refine k_i2l (pc := 6) C dX11_mean_6 ?_
  refine k_lconst (pc := 7) C lconst_1 dX11_mean_7 ?_
  refine k_ldc2 (pc := 8) C q_994 dX11_mean_8 ?_
  refine k_callSi (pc := 11) (As := [.long (Int32.toInt64 p0), .long 1, .long 60]) (rest := []) (r := (s_X11_in (Int32.toInt64 p0) 1 60)) (wc := []) (wc2 := []) (ws2 := [(h_t, moE (upd f_t 7 0) h_t_w h_t_saved h_t_trial h_t_text h_t_told), (h_t_w, jA cJ 294 f_t_w)]) C (c_X11_in l D cI cJ cO (Int32.toInt64 p0) 1 60) cws_X11_in q_1051 [] rfl rfl (by decide) rfl rfl (Nat.le_of_ble_eq_true rfl) ⟨Nat.le_of_ble_eq_true rfl, Nat.le_of_ble_eq_true rfl⟩ rfl ⟨Nat.le_refl _, Nat.le_refl _⟩ dX11_mean_11 ?_
  refine k_if_ne (pc := 14) (tgt := 24) C dX11_mean_14 (by decide) (fun c_1 => ?_) (fun c_1 => ?_)
  · refine k_lconst (pc := 24) C lconst_0 dX11_mean_24 ?_
    refine k_lstore_n (pc := 25) (lv2 := [(2, .long 0), (0, .ref h_t), (1, .int p0)]) C rfl (by decide) rfl dX11_mean_25 ?_
    refine k_aload_n (pc := 26) C rfl 1 rfl dX11_mean_26 ?_
    refine k_iload_n (pc := 27) C rfl 2 rfl dX11_mean_27 ?_
    refine k_callVi (pc := 28) (As := [.int p0]) (rest := []) (r := (s_X11_from (upd f_t 7 0) f_t_w p0)) (wc := [(h_t, moE (upd f_t 7 0) h_t_w h_t_saved h_t_trial h_t_text h_t_told), (h_t_w, jA cJ 294 f_t_w)]) (wc2 := [(h_t, moE (upd f_t 7 0) h_t_w h_t_saved h_t_trial h_t_text h_t_told), (h_t_w, jA cJ 294 f_t_w)]) (ws2 := [(h_t, moE (upd f_t 7 0) h_t_w h_t_saved h_t_trial h_t_text h_t_told), (h_t_w, jA cJ 294 f_t_w)]) C (c_X11_from l D cI cJ cO h_t h_t_w h_t_saved h_t_trial h_t_text h_t_told (upd f_t 7 0) f_t_w p0) cwv_X11_from q_1237 vX11 0 rfl [0, 1] rfl rfl (by decide) rfl rfl (Nat.le_of_ble_eq_true rfl) ⟨Nat.le_of_ble_eq_true rfl, Nat.le_of_ble_eq_true rfl⟩ rfl ⟨Nat.le_refl _, Nat.le_refl _⟩ dX11_mean_28 ?_
    refine k_istore (pc := 31) (lv2 := [(4, .int (s_X11_from (upd f_t 7 0) f_t_w p0)), (2, .long 0), (0, .ref h_t), (1, .int p0)]) C (by decide) rfl dX11_mean_31 ?_
    have K_12 : ∀ (m_9 : Int32 × Int64), m_9 = (kLoop default (b_X11_mean_L33 f_t_w) (((60 : Int) - Int32.toInt (s_X11_from (upd f_t 7 0) f_t_w p0)).toNat + 1) ((s_X11_from (upd f_t 7 0) f_t_w p0), 0)) → KJ p l e (kR 1 25) s m args below meth c 0 0 Q D A 5 [(h_t, moE (upd f_t 7 0) h_t_w h_t_saved h_t_trial h_t_text h_t_told), (h_t_w, jA cJ 294 f_t_w)] [(2, .long m_9.2), (0, .ref h_t), (1, .int p0)] [] 67 := by
      intro m_9 em_9
      refine k_aload_n (pc := 67) C rfl 1 rfl dX11_mean_67 ?_
      refine g_X11_0 (pc := 68) C q_998 0 rfl dX11_mean_68 ?_
      refine k_bipush (pc := 71) C bipush_48 dX11_mean_71 ?_
      refine k_laldK (pc := 73) (v := (f_t_w 48)) C 1 1 rfl rfl (k_vinc 48 cl_48 (by decide) (by decide)) cl_48 rfl dX11_mean_73 ?_
      refine k_lconst (pc := 74) C lconst_0 dX11_mean_74 ?_
      refine k_lcmp_ne (pc := 75) (tgt := 83) C dX11_mean_75 dX11_mean_76 (by decide) (fun c_10 => ?_) (fun c_10 => ?_)
      · refine k_lload_n (pc := 83) C rfl 0 rfl dX11_mean_83 ?_
        refine k_l2d (pc := 84) C dX11_mean_84 ?_
        refine k_aload_n (pc := 85) C rfl 1 rfl dX11_mean_85 ?_
        refine g_X11_0 (pc := 86) C q_998 0 rfl dX11_mean_86 ?_
        refine k_bipush (pc := 89) C bipush_48 dX11_mean_89 ?_
        refine k_laldK (pc := 91) (v := (f_t_w 48)) C 1 1 rfl rfl (k_vinc 48 cl_48 (by decide) (by decide)) cl_48 rfl dX11_mean_91 ?_
        refine k_aload_n (pc := 92) C rfl 1 rfl dX11_mean_92 ?_
        refine k_iload_n (pc := 93) C rfl 2 rfl dX11_mean_93 ?_
        refine k_callVi (pc := 94) (As := [.int p0]) (rest := [.long (f_t_w 48), .double (FP.l2d m_9.2)]) (r := (s_X11_from (upd f_t 7 0) f_t_w p0)) (wc := [(h_t, moE (upd f_t 7 0) h_t_w h_t_saved h_t_trial h_t_text h_t_told), (h_t_w, jA cJ 294 f_t_w)]) (wc2 := [(h_t, moE (upd f_t 7 0) h_t_w h_t_saved h_t_trial h_t_text h_t_told), (h_t_w, jA cJ 294 f_t_w)]) (ws2 := [(h_t, moE (upd f_t 7 0) h_t_w h_t_saved h_t_trial h_t_text h_t_told), (h_t_w, jA cJ 294 f_t_w)]) C (c_X11_from l D cI cJ cO h_t h_t_w h_t_saved h_t_trial h_t_text h_t_told (upd f_t 7 0) f_t_w p0) cwv_X11_from q_1237 vX11 0 rfl [0, 1] rfl rfl (by decide) rfl rfl (Nat.le_of_ble_eq_true rfl) ⟨Nat.le_of_ble_eq_true rfl, Nat.le_of_ble_eq_true rfl⟩ rfl ⟨Nat.le_refl _, Nat.le_refl _⟩ dX11_mean_94 ?_
        refine k_i2l (pc := 97) C dX11_mean_97 ?_
        refine k_lsub (pc := 98) C dX11_mean_98 ?_
        refine k_l2d (pc := 99) C dX11_mean_99 ?_
        refine k_ddiv (pc := 100) C (k_qL (k_meanNz c_10 hf_t_w_48 c_1)) dX11_mean_100 ?_
        have hs : (s_X11_mean f_t f_t_w p0) = ((FP.ddiv (FP.l2d m_9.2) (FP.l2d ((f_t_w 48) - (Int32.toInt64 (s_X11_from (upd f_t 7 0) f_t_w p0))))), (upd f_t 7 0)) := (k_st (g := s_X11_mean_2 f_t_w f_t p0) em_9 (if_neg c_1) (if_neg c_10))
        exact k_finD (pc := 101) hret (by rw [hs]) (by rw [hs]) dX11_mean_101
      · refine k_dconst0 (pc := 79) C dX11_mean_79 ?_
        refine k_goto (pc := 80) (tgt := 101) C (by decide) dX11_mean_80 ?_
        have hs : (s_X11_mean f_t f_t_w p0) = (FP.dconst0, (upd f_t 7 0)) := (k_st (g := s_X11_mean_2 f_t_w f_t p0) em_9 (if_neg c_1) (if_pos c_10))
        exact k_finD (pc := 101) hret (by rw [hs]) (by rw [hs]) dX11_mean_101
    have L_13 : ∀ (n : Nat) (z_6 : Int32 × Int64), ((60 : Int) - Int32.toInt z_6.1).toNat < n → (kIn z_6.1 0 60) → kLoop default (b_X11_mean_L33 f_t_w) n z_6 = (kLoop default (b_X11_mean_L33 f_t_w) (((60 : Int) - Int32.toInt (s_X11_from (upd f_t 7 0) f_t_w p0)).toNat + 1) ((s_X11_from (upd f_t 7 0) f_t_w p0), 0)) → KJ p l e (kR 1 25) s m args below meth c 0 0 Q D A 5 [(h_t, moE (upd f_t 7 0) h_t_w h_t_saved h_t_trial h_t_text h_t_told), (h_t_w, jA cJ 294 f_t_w)] [(4, .int z_6.1), (2, .long z_6.2), (0, .ref h_t), (1, .int p0)] [] 33 := by
      intro n
      induction n with
      | zero => intro z_6 hmu; exact absurd hmu (Nat.not_lt_zero _)
      | succ n ih =>
        intro z_6 hmu hl_7 hR
        refine k_iload (pc := 33) C 0 rfl dX11_mean_33 ?_
        refine k_i2l (pc := 35) C dX11_mean_35 ?_
        refine k_aload_n (pc := 36) C rfl 2 rfl dX11_mean_36 ?_
        refine g_X11_0 (pc := 37) C q_998 0 rfl dX11_mean_37 ?_
        refine k_bipush (pc := 40) C bipush_48 dX11_mean_40 ?_
        refine k_laldK (pc := 42) (v := (f_t_w 48)) C 1 1 rfl rfl (k_vinc 48 cl_48 (by decide) (by decide)) cl_48 rfl dX11_mean_42 ?_
        refine k_lcmp_ge (pc := 43) (tgt := 67) C dX11_mean_43 dX11_mean_44 (by decide) (fun c_8 => ?_) (fun c_8 => ?_)
        · refine k_lpick (lv2 := [(2, .long z_6.2), (0, .ref h_t), (1, .int p0)]) [1, 2, 3] rfl ?_
          exact K_12 (z_6.1, z_6.2) (k_lout hR (if_pos c_8))
        · refine k_lload_n (pc := 47) C rfl 1 rfl dX11_mean_47 ?_
          refine k_aload_n (pc := 48) C rfl 2 rfl dX11_mean_48 ?_
          refine g_X11_0 (pc := 49) C q_998 0 rfl dX11_mean_49 ?_
          refine k_sipush (pc := 52) C sipush_234 dX11_mean_52 ?_
          refine k_iload (pc := 55) C 0 rfl dX11_mean_55 ?_
          refine k_iadd (pc := 57) C dX11_mean_57 ?_
          refine k_laldK (pc := 58) (v := (f_t_w (Int32.toNatClampNeg (234 + z_6.1)))) C 1 1 rfl rfl (kIn.vp (kIn.add (kIn.lit (x := 234) (n := 234) (by decide)) (kIn.i2lNle hl_7 c_8 hf_t_w_48 : kIn z_6.1 0 59) (by decide) (by decide)) (by decide) (by decide)) rfl rfl dX11_mean_58 ?_
          refine k_ladd (pc := 59) C dX11_mean_59 ?_
          refine k_lstore_n (pc := 60) (lv2 := [(2, .long (z_6.2 + (f_t_w (Int32.toNatClampNeg (234 + z_6.1))))), (4, .int z_6.1), (0, .ref h_t), (1, .int p0)]) C rfl (by decide) rfl dX11_mean_60 ?_
          refine k_iinc (pc := 61) (v := (z_6.1 + 1)) (lv2 := [(4, .int (z_6.1 + 1)), (2, .long (z_6.2 + (f_t_w (Int32.toNatClampNeg (234 + z_6.1))))), (0, .ref h_t), (1, .int p0)]) C 1 rfl rfl (by decide) rfl dX11_mean_61 ?_
          refine k_goto (pc := 64) (tgt := 33) C (by decide) dX11_mean_64 ?_
          exact ih ((z_6.1 + 1), (z_6.2 + (f_t_w (Int32.toNatClampNeg (234 + z_6.1))))) (kIn.dec (kIn.i2lNle hl_7 c_8 hf_t_w_48 : kIn z_6.1 0 59) (by decide) (by decide) hmu) (kIn.wk (kIn.add (kIn.i2lNle hl_7 c_8 hf_t_w_48 : kIn z_6.1 0 59) (kIn.lit (x := 1) (n := 1) (by decide)) (by decide) (by decide)) (by decide) (by decide)) (k_lin hR (if_neg c_8))
    exact L_13 (((60 : Int) - Int32.toInt (s_X11_from (upd f_t 7 0) f_t_w p0)).toNat + 1) ((s_X11_from (upd f_t 7 0) f_t_w p0), 0) (Nat.lt_succ_self _) (kIn.wk (kIn.from (f := (upd f_t 7 0)) (kIn.inb c_1 (kInL.lit (x := 1) (n := 1) (by decide)) (kInL.lit (x := 60) (n := 60) (by decide))) hf_t_w_48 (by decide) (by decide) (by decide)) (by decide) (by decide)) rfl
  · refine k_aload_n (pc := 17) C rfl 0 rfl dX11_mean_17 ?_
    refine k_iconst (pc := 18) C iconst_1 dX11_mean_18 ?_
    obtain ⟨u_11, eu_11⟩ : ∃ z : Int32 × (Nat → Int32), z = (s_X11_refuse (upd f_t 7 0) 1) := ⟨_, rfl⟩
    refine k_callVi (pc := 19) (As := [.int 1]) (rest := []) (r := u_11.1) (wc := [(h_t, moE (upd f_t 7 0) h_t_w h_t_saved h_t_trial h_t_text h_t_told)]) (wc2 := [(h_t, moE u_11.2 h_t_w h_t_saved h_t_trial h_t_text h_t_told)]) (ws2 := [(h_t, moE u_11.2 h_t_w h_t_saved h_t_trial h_t_text h_t_told), (h_t_w, jA cJ 294 f_t_w)]) C (by rw [eu_11]; exact c_X11_refuse l D cI cJ cO h_t h_t_w h_t_saved h_t_trial h_t_text h_t_told (upd f_t 7 0) 1) cwv_X11_refuse q_1054 vX11 0 rfl [0] rfl rfl (by decide) rfl rfl (Nat.le_of_ble_eq_true rfl) ⟨Nat.le_of_ble_eq_true rfl, Nat.le_of_ble_eq_true rfl⟩ rfl ⟨Nat.le_refl _, Nat.le_refl _⟩ dX11_mean_19 ?_
    refine k_i2d (pc := 22) C dX11_mean_22 ?_
    have hs : (s_X11_mean f_t f_t_w p0) = ((FP.i2d u_11.1), u_11.2) := (k_st (g := s_X11_mean_1) eu_11 (if_pos c_1) rfl)
    exact k_finD (pc := 23) hret (by rw [hs]) (by rw [hs]) dX11_mean_23

theorem dX10_mean_0 : decode cX10_mean 0 = .ok (.iload_n 1, 1) := by decide +kernel
theorem dX10_mean_1 : decode cX10_mean 1 = .ok (.iconst 1, 1) := by decide +kernel
theorem dX10_mean_2 : decode cX10_mean 2 = .ok (.bipush 60, 2) := by decide +kernel
theorem dX10_mean_4 : decode cX10_mean 4 = .ok (.invokestatic 51, 3) := by decide +kernel
theorem dX10_mean_7 : decode cX10_mean 7 = .ok (.invokestatic 55, 3) := by decide +kernel
theorem dX10_mean_10 : decode cX10_mean 10 = .ok (.iload_n 1, 1) := by decide +kernel
theorem dX10_mean_11 : decode cX10_mean 11 = .ok (.aload_n 0, 1) := by decide +kernel
theorem dX10_mean_12 : decode cX10_mean 12 = .ok (.getfield 10, 3) := by decide +kernel
theorem dX10_mean_15 : decode cX10_mean 15 = .ok (.getfield 213, 3) := by decide +kernel
theorem dX10_mean_18 : decode cX10_mean 18 = .ok (.getfield 222, 3) := by decide +kernel
theorem dX10_mean_21 : decode cX10_mean 21 = .ok (.invokestatic 225, 3) := by decide +kernel
theorem dX10_mean_24 : decode cX10_mean 24 = .ok (.istore_n 2, 1) := by decide +kernel
theorem dX10_mean_25 : decode cX10_mean 25 = .ok (.iload_n 2, 1) := by decide +kernel
theorem dX10_mean_26 : decode cX10_mean 26 = .ok (.ifCond .ne 5, 3) := by decide +kernel
theorem dX10_mean_29 : decode cX10_mean 29 = .ok (.dconst 0, 1) := by decide +kernel
theorem dX10_mean_30 : decode cX10_mean 30 = .ok (.dreturn, 1) := by decide +kernel
theorem dX10_mean_31 : decode cX10_mean 31 = .ok (.iconst 0, 1) := by decide +kernel
theorem dX10_mean_32 : decode cX10_mean 32 = .ok (.istore_n 3, 1) := by decide +kernel
theorem dX10_mean_33 : decode cX10_mean 33 = .ok (.iconst 0, 1) := by decide +kernel
theorem dX10_mean_34 : decode cX10_mean 34 = .ok (.istore 4, 2) := by decide +kernel
theorem dX10_mean_36 : decode cX10_mean 36 = .ok (.iload 4, 2) := by decide +kernel
theorem dX10_mean_38 : decode cX10_mean 38 = .ok (.iload_n 2, 1) := by decide +kernel
theorem dX10_mean_39 : decode cX10_mean 39 = .ok (.if_icmp .ge 24, 3) := by decide +kernel
theorem dX10_mean_42 : decode cX10_mean 42 = .ok (.iload_n 3, 1) := by decide +kernel
theorem dX10_mean_43 : decode cX10_mean 43 = .ok (.aload_n 0, 1) := by decide +kernel
theorem dX10_mean_44 : decode cX10_mean 44 = .ok (.getfield 10, 3) := by decide +kernel
theorem dX10_mean_47 : decode cX10_mean 47 = .ok (.getfield 213, 3) := by decide +kernel
theorem dX10_mean_50 : decode cX10_mean 50 = .ok (.iload 4, 2) := by decide +kernel
theorem dX10_mean_52 : decode cX10_mean 52 = .ok (.invokevirtual 217, 3) := by decide +kernel
theorem dX10_mean_55 : decode cX10_mean 55 = .ok (.iadd, 1) := by decide +kernel
theorem dX10_mean_56 : decode cX10_mean 56 = .ok (.istore_n 3, 1) := by decide +kernel
theorem dX10_mean_57 : decode cX10_mean 57 = .ok (.iinc 4 1, 3) := by decide +kernel
theorem dX10_mean_60 : decode cX10_mean 60 = .ok (.goto (-24), 3) := by decide +kernel
theorem dX10_mean_63 : decode cX10_mean 63 = .ok (.iload_n 3, 1) := by decide +kernel
theorem dX10_mean_64 : decode cX10_mean 64 = .ok (.i2d, 1) := by decide +kernel
theorem dX10_mean_65 : decode cX10_mean 65 = .ok (.iload_n 2, 1) := by decide +kernel
theorem dX10_mean_66 : decode cX10_mean 66 = .ok (.i2d, 1) := by decide +kernel
theorem dX10_mean_67 : decode cX10_mean 67 = .ok (.ddiv, 1) := by decide +kernel
theorem dX10_mean_68 : decode cX10_mean 68 = .ok (.dreturn, 1) := by decide +kernel
def b_X10_mean_1 (z_6 : Int32 × Int32) (u_8 : Int32) : (Int32 × Int32) ⊕ (Int32 × Int32) :=
  (Sum.inl ((z_6.1 + 1), (z_6.2 + u_8)))
def b_X10_mean_L36 (v_1 : Int32) (f_t_now_temperatures : Nat → Int32) (f_t_now_temperatures_cells : Nat → Int32) (z_6 : Int32 × Int32) : (Int32 × Int32) ⊕ (Int32 × Int32) :=
  (if v_1 ≤ z_6.1 then (Sum.inr (z_6.1, z_6.2)) else (b_X10_mean_1 z_6 (s_X3_latest 60 f_t_now_temperatures f_t_now_temperatures_cells z_6.1)))
def s_X10_mean_2 (v_1 : Int32) (m_9 : Int32 × Int32) : UInt64 :=
  (FP.ddiv (FP.i2d m_9.2) (FP.i2d v_1))
def s_X10_mean_3 (f_t_now_temperatures : Nat → Int32) (f_t_now_temperatures_cells : Nat → Int32) (v_1 : Int32) : UInt64 :=
  (if v_1 = 0 then FP.dconst0 else (s_X10_mean_2 v_1 (kLoop default (b_X10_mean_L36 v_1 f_t_now_temperatures f_t_now_temperatures_cells) ((Int32.toInt v_1 - Int32.toInt 0).toNat + 1) (0, 0))))
def s_X10_mean (f_t_now : Nat → Int32) (f_t_now_temperatures : Nat → Int32) (f_t_now_temperatures_cells : Nat → Int32) (p0 : Int32) : UInt64 :=
  (s_X10_mean_3 f_t_now_temperatures f_t_now_temperatures_cells (if (f_t_now_temperatures 2) < p0 then (f_t_now_temperatures 2) else p0))
set_option maxRecDepth 100000 in
set_option maxHeartbeats 4000000 in
theorem c_X10_mean (l : Launch) (D : va_G) (cI cJ cO : ClassId) (an : Nat → Nat) (sn : Nat → Nat → Int32) (jn : Int64) (ax : Nat → Nat) (sx : Nat → Nat → Int32) (jx : Int64) (h_t : Nat) (h_t_saved : Nat) (h_t_text : Nat) (p0 : Int32) (v1 : ¬ (s_X10_isWithin p0 1 60) = 0) : kD l yX10_mean cX10_mean 5 .double 2 43 D (kT cI cJ cO) [.ref h_t, .int p0] [(h_t, ccE (an 0) (ax 0) h_t_saved h_t_text), ((an 0), stE (sn 0) (an 1) (an 2) (an 3) (an 4) (an 5) (an 6) (an 7) (an 8) (an 9)), ((an 9), rgE (sn 9) (an 25)), ((an 25), iA cI 60 (sn 25))] (s_X10_mean (sn 0) (sn 9) (sn 25) p0) [(h_t, ccE (an 0) (ax 0) h_t_saved h_t_text), ((an 0), stE (sn 0) (an 1) (an 2) (an 3) (an 4) (an 5) (an 6) (an 7) (an 8) (an 9)), ((an 9), rgE (sn 9) (an 25)), ((an 25), iA cI 60 (sn 25))] := by
  refine kD_of (own := RX10) (lv := [(0, .ref h_t), (1, .int p0)]) rfl rfl (by decide) (Nat.le_of_ble_eq_true rfl) ?_
  intro p e s m args below meth c Q A C hret
  refine k_iload_n (pc := 0) C rfl 1 rfl dX10_mean_0 ?_
  refine k_iconst (pc := 1) C iconst_1 dX10_mean_1 ?_
  refine k_bipush (pc := 2) C bipush_60 dX10_mean_2 ?_
  refine k_callSi (pc := 4) (As := [.int p0, .int 1, .int 60]) (rest := []) (r := (s_X10_isWithin p0 1 60)) (wc := []) (wc2 := []) (ws2 := [(h_t, ccE (an 0) (ax 0) h_t_saved h_t_text), ((an 0), stE (sn 0) (an 1) (an 2) (an 3) (an 4) (an 5) (an 6) (an 7) (an 8) (an 9)), ((an 9), rgE (sn 9) (an 25)), ((an 25), iA cI 60 (sn 25))]) C (c_X10_isWithin l D cI cJ cO p0 1 60) cws_X10_isWithin q_450 [] rfl rfl (by decide) rfl rfl (Nat.le_of_ble_eq_true rfl) ⟨Nat.le_of_ble_eq_true rfl, Nat.le_of_ble_eq_true rfl⟩ rfl ⟨Nat.le_refl _, Nat.le_refl _⟩ dX10_mean_4 ?_
  refine k_callSv (pc := 7) (As := [.int (s_X10_isWithin p0 1 60)]) (rest := []) (wc := []) (wc2 := []) (ws2 := [(h_t, ccE (an 0) (ax 0) h_t_saved h_t_text), ((an 0), stE (sn 0) (an 1) (an 2) (an 3) (an 4) (an 5) (an 6) (an 7) (an 8) (an 9)), ((an 9), rgE (sn 9) (an 25)), ((an 25), iA cI 60 (sn 25))]) C (c_X10_requireArgument l D cI cJ cO (s_X10_isWithin p0 1 60) v1) cws_X10_requireArgument q_548 [] rfl rfl (by decide) rfl rfl (Nat.le_of_ble_eq_true rfl) ⟨Nat.le_of_ble_eq_true rfl, Nat.le_of_ble_eq_true rfl⟩ rfl ⟨Nat.le_refl _, Nat.le_refl _⟩ dX10_mean_7 ?_
  refine k_iload_n (pc := 10) C rfl 1 rfl dX10_mean_10 ?_
  refine k_aload_n (pc := 11) C rfl 0 rfl dX10_mean_11 ?_
  refine g_X10_0 (pc := 12) C q_394 0 rfl dX10_mean_12 ?_
  refine g_X7_10 (pc := 15) C q_322 1 rfl dX10_mean_15 ?_
  refine g_X3_2 (pc := 18) (x := ((sn 9) 2)) C q_255 2 rfl rfl dX10_mean_18 ?_
  refine k_mmin (pc := 21) C q_579 q_580 q_49 q_581 ⟨Nat.le_of_ble_eq_true rfl, Nat.le_of_ble_eq_true rfl, Nat.le_refl _, Nat.le_refl _⟩ dX10_mean_21 ?_
  obtain ⟨v_1, ev_1⟩ : ∃ z : Int32, z = (if ((sn 9) 2) < p0 then ((sn 9) 2) else p0) := ⟨_, rfl⟩
  rw [← ev_1]
  refine k_istore_n (pc := 24) (lv2 := [(2, .int v_1), (0, .ref h_t), (1, .int p0)]) C rfl (by decide) rfl dX10_mean_24 ?_
  refine k_iload_n (pc := 25) C rfl 0 rfl dX10_mean_25 ?_
  refine k_if_ne (pc := 26) (tgt := 31) C dX10_mean_26 (by decide) (fun c_2 => ?_) (fun c_2 => ?_)
  · refine k_iconst (pc := 31) C iconst_0 dX10_mean_31 ?_
    refine k_istore_n (pc := 32) (lv2 := [(3, .int 0), (2, .int v_1), (0, .ref h_t), (1, .int p0)]) C rfl (by decide) rfl dX10_mean_32 ?_
    refine k_iconst (pc := 33) C iconst_0 dX10_mean_33 ?_
    refine k_istore (pc := 34) (lv2 := [(4, .int 0), (3, .int 0), (2, .int v_1), (0, .ref h_t), (1, .int p0)]) C (by decide) rfl dX10_mean_34 ?_
    have K_10 : ∀ (m_9 : Int32 × Int32), m_9 = (kLoop default (b_X10_mean_L36 v_1 (sn 9) (sn 25)) ((Int32.toInt v_1 - Int32.toInt 0).toNat + 1) (0, 0)) → KJ p l e (kR 2 43) s m args below meth c 0 0 Q D A 5 [(h_t, ccE (an 0) (ax 0) h_t_saved h_t_text), ((an 0), stE (sn 0) (an 1) (an 2) (an 3) (an 4) (an 5) (an 6) (an 7) (an 8) (an 9)), ((an 9), rgE (sn 9) (an 25)), ((an 25), iA cI 60 (sn 25))] [(3, .int m_9.2), (2, .int v_1)] [] 63 := by
      intro m_9 em_9
      refine k_iload_n (pc := 63) C rfl 0 rfl dX10_mean_63 ?_
      refine k_i2d (pc := 64) C dX10_mean_64 ?_
      refine k_iload_n (pc := 65) C rfl 1 rfl dX10_mean_65 ?_
      refine k_i2d (pc := 66) C dX10_mean_66 ?_
      refine k_ddiv (pc := 67) C (k_qI c_2) dX10_mean_67 ?_
      have hs : (s_X10_mean (sn 0) (sn 9) (sn 25) p0) = (FP.ddiv (FP.i2d m_9.2) (FP.i2d v_1)) := (k_st (g := s_X10_mean_3 (sn 9) (sn 25)) ev_1 rfl (k_st (g := s_X10_mean_2 v_1) em_9 (if_neg c_2) rfl))
      exact k_finD (pc := 68) hret (by rw [hs]) rfl dX10_mean_68
    have L_11 : ∀ (n : Nat) (z_6 : Int32 × Int32), (Int32.toInt v_1 - Int32.toInt z_6.1).toNat < n → kLoop default (b_X10_mean_L36 v_1 (sn 9) (sn 25)) n z_6 = (kLoop default (b_X10_mean_L36 v_1 (sn 9) (sn 25)) ((Int32.toInt v_1 - Int32.toInt 0).toNat + 1) (0, 0)) → KJ p l e (kR 2 43) s m args below meth c 0 0 Q D A 5 [(h_t, ccE (an 0) (ax 0) h_t_saved h_t_text), ((an 0), stE (sn 0) (an 1) (an 2) (an 3) (an 4) (an 5) (an 6) (an 7) (an 8) (an 9)), ((an 9), rgE (sn 9) (an 25)), ((an 25), iA cI 60 (sn 25))] [(4, .int z_6.1), (3, .int z_6.2), (2, .int v_1), (0, .ref h_t)] [] 36 := by
      intro n
      induction n with
      | zero => intro z_6 hmu; exact absurd hmu (Nat.not_lt_zero _)
      | succ n ih =>
        intro z_6 hmu hR
        refine k_iload (pc := 36) C 0 rfl dX10_mean_36 ?_
        refine k_iload_n (pc := 38) C rfl 2 rfl dX10_mean_38 ?_
        refine k_icmp_ge (pc := 39) (tgt := 63) C dX10_mean_39 (by decide) (fun c_7 => ?_) (fun c_7 => ?_)
        · refine k_lpick (lv2 := [(3, .int z_6.2), (2, .int v_1)]) [1, 2] rfl ?_
          exact K_10 (z_6.1, z_6.2) (k_lout hR (if_pos c_7))
        · refine k_iload_n (pc := 42) C rfl 1 rfl dX10_mean_42 ?_
          refine k_aload_n (pc := 43) C rfl 3 rfl dX10_mean_43 ?_
          refine g_X10_0 (pc := 44) C q_394 0 rfl dX10_mean_44 ?_
          refine g_X7_10 (pc := 47) C q_322 1 rfl dX10_mean_47 ?_
          refine k_iload (pc := 50) C 0 rfl dX10_mean_50 ?_
          obtain ⟨u_8, eu_8⟩ : ∃ z : Int32, z = (s_X3_latest 60 (sn 9) (sn 25) z_6.1) := ⟨_, rfl⟩
          refine k_callVi (pc := 52) (As := [.int z_6.1]) (rest := [.int z_6.2]) (r := u_8) (wc := [((an 9), rgE (sn 9) (an 25)), ((an 25), iA cI 60 (sn 25))]) (wc2 := [((an 9), rgE (sn 9) (an 25)), ((an 25), iA cI 60 (sn 25))]) (ws2 := [(h_t, ccE (an 0) (ax 0) h_t_saved h_t_text), ((an 0), stE (sn 0) (an 1) (an 2) (an 3) (an 4) (an 5) (an 6) (an 7) (an 8) (an 9)), ((an 9), rgE (sn 9) (an 25)), ((an 25), iA cI 60 (sn 25))]) C (by rw [eu_8]; exact c_X3_latest l D cI cJ cO (an 9) (an 25) 60 (sn 9) (sn 25) z_6.1 (by decide)) cwv_X3_latest q_910 vX3 2 rfl [2, 3] rfl rfl (by decide) rfl rfl (Nat.le_of_ble_eq_true rfl) ⟨Nat.le_of_ble_eq_true rfl, Nat.le_of_ble_eq_true rfl⟩ rfl ⟨Nat.le_refl _, Nat.le_refl _⟩ dX10_mean_52 ?_
          refine k_iadd (pc := 55) C dX10_mean_55 ?_
          refine k_istore_n (pc := 56) (lv2 := [(3, .int (z_6.2 + u_8)), (4, .int z_6.1), (2, .int v_1), (0, .ref h_t)]) C rfl (by decide) rfl dX10_mean_56 ?_
          refine k_iinc (pc := 57) (v := (z_6.1 + 1)) (lv2 := [(4, .int (z_6.1 + 1)), (3, .int (z_6.2 + u_8)), (2, .int v_1), (0, .ref h_t)]) C 1 rfl rfl (by decide) rfl dX10_mean_57 ?_
          refine k_goto (pc := 60) (tgt := 36) C (by decide) dX10_mean_60 ?_
          exact ih ((z_6.1 + 1), (z_6.2 + u_8)) (k_dec (k_nle c_7) hmu) (k_lin hR (k_st (g := b_X10_mean_1 z_6) eu_8 (if_neg c_7) rfl))
    refine k_lpick (lv2 := [(4, .int 0), (3, .int 0), (2, .int v_1), (0, .ref h_t)]) [0, 1, 2, 3] rfl ?_
    exact L_11 ((Int32.toInt v_1 - Int32.toInt 0).toNat + 1) (0, 0) (Nat.lt_succ_self _) rfl
  · refine k_dconst0 (pc := 29) C dX10_mean_29 ?_
    have hs : (s_X10_mean (sn 0) (sn 9) (sn 25) p0) = FP.dconst0 := (k_st (g := s_X10_mean_3 (sn 9) (sn 25)) ev_1 rfl (if_pos c_2))
    exact k_finD (pc := 30) hret (by rw [hs]) rfl dX10_mean_30

set_option maxRecDepth 100000 in
set_option maxHeartbeats 4000000 in
theorem x_X10_mean_0 (l : Launch) (hl0 : l.stackTraces = false) (D : va_G) (cI cJ cO : ClassId) (z : zT) (h_t : Nat) (p0 : Int32) (v1 : (s_X10_isWithin p0 1 60) = 0) : kX l yX10_mean cX10_mean 5 (some .double) 7 103 1 6 D (kT cI cJ cO) z [.ref h_t, .int p0] [] kIAE [] := by
  refine kX_of (own := RX10) (lv := [(0, .ref h_t), (1, .int p0)]) rfl rfl (by decide) (Nat.le_of_ble_eq_true rfl) ?_
  intro p e s m args below meth c C hZ hno
  refine k_iload_n (pc := 0) C rfl 1 rfl dX10_mean_0 ?_
  refine k_iconst (pc := 1) C iconst_1 dX10_mean_1 ?_
  refine k_bipush (pc := 2) C bipush_60 dX10_mean_2 ?_
  refine k_callSi (pc := 4) (As := [.int p0, .int 1, .int 60]) (rest := []) (r := (s_X10_isWithin p0 1 60)) (wc := []) (wc2 := []) (ws2 := []) C (c_X10_isWithin l D cI cJ cO p0 1 60) cws_X10_isWithin q_450 [] rfl rfl (by decide) rfl rfl (Nat.le_of_ble_eq_true rfl) ⟨Nat.le_of_ble_eq_true rfl, Nat.le_of_ble_eq_true rfl⟩ rfl ⟨Nat.le_of_ble_eq_true rfl, Nat.le_of_ble_eq_true rfl⟩ dX10_mean_4 ?_
  exact k_xcallS (pc := 7) (As := [.int (s_X10_isWithin p0 1 60)]) (rest := []) C hZ hno (x_X10_requireArgument l hl0 D cI cJ cO z (s_X10_isWithin p0 1 60) v1) cws_X10_requireArgument q_548 rfl (Nat.le_of_ble_eq_true rfl) ⟨Nat.le_of_ble_eq_true rfl, Nat.le_of_ble_eq_true rfl⟩ rfl ⟨Nat.le_of_ble_eq_true rfl, Nat.le_of_ble_eq_true rfl⟩ ⟨Nat.le_of_ble_eq_true rfl, Nat.le_of_ble_eq_true rfl⟩ dX10_mean_7
