section PST
variable {p : Program} {l : Launch} {e : Env} {R : Room} {s : State} {m : MethodId} {args : Array Value} {below : List Frame} {meth : Method} {c : Code} {cells slots : Nat} {Q : State → Prop} {D : va_G} {A : Nat → Prop} {nL : Nat} {cc : ByteArray} {own : String} {ret : Option FieldType} {tys : List (ClassId × FieldType)} {ws : va_W} {lv : List (Nat × Value)} {st : List Value} {pc : Nat} {z : zT}
theorem k_callWi (C : KC p s m args meth c cc nL own ret D tys A) (hZ : kZ z A s s.heap) {As rest : List Value} {index n : Nat} {y : MethodName} {bytes : ByteArray} {maxL F L mc ms : Nat} {hh : List (Nat × Nat × Nat × Nat)} {wc wr : va_W} {S : Type} {ws2 : S → va_W} {r : Int32} (hM : kWi l y bytes maxL hh F L mc ms D tys z As wc r ws2) (cw : Cond.codeWith y bytes maxL (some .int) hh ∈ lw_all ∧ Cond.initialized y.cls ∈ lw_all ∧ Cond.static y ∈ lw_all ∧ (y.cls ≠ "java/lang/invoke/MethodHandle" ∧ y.cls ≠ "java/lang/invoke/VarHandle" ∧ (parseMethodDescriptor y.desc).map (fun d => d.parameters.length) = some n)) (hlk : Cond.methodLink own index y ∈ lw_all) (hpm : ws.Perm (wc ++ wr)) (hst : st = As.reverse ++ rest) (hcat : (rest.map fun v => v.category).sum ≤ 8) (hR : F + 1 ≤ R.frames ∧ 8 + (maxL + 11) + L ≤ R.locals) (hn : As.length = n) (hcs : cells + mc ≤ R.cells ∧ slots + ms ≤ R.slots) (hd0 : decode cc pc = .ok (.invokestatic index, 3)) (h : ∀ u : S, KJ p l e R s m args below meth c (cells + mc) (slots + ms) Q D A nL (wr ++ ws2 u) lv (.int r :: rest) (pc + 3)) : KJ p l e R s m args below meth c cells slots Q D A nL ws lv st pc := by
  intro H locs ls hP hD hS hl
  obtain ⟨hx, hb, hml, hown, hts, hK, hA, hr0, hlks, hN⟩ := C
  have hP' := hP.perm hpm
  have hD' := hD.perm hpm
  have hPc : va_P D vwCl wc H := hP'.left
  have hDc : va_D A wc := hD'.left
  have hFc := va_free2 hDc hS hA
  obtain ⟨c1, c2, c3, c4⟩ := cw
  have hG := fun (w : Cond) (h2 : w ∈ lw_all) => And.intro h2 (good_of_word (k_good _ h2))
  have hg : GoodIn lw_all (va_wsS own index y (.codeWith y bytes maxL (some .int) hh :: lw_all)) := by
    intro w hw
    unfold va_wsS at hw
    simp only [List.cons_append, List.nil_append, List.mem_cons, List.mem_append, List.not_mem_nil, or_false, false_or] at hw
    rcases hw with rfl | rfl | rfl | hw
    all_goals first | exact hG _ hlk | exact hG _ c3 | exact hG _ c2 | exact hG _ c1 | exact hG _ hw | skip
    all_goals (rcases hw with rfl | hw <;> first | exact hG _ c1 | exact hG _ hw)
  have hcw := vx_cwSW (R := R) (rm := kRc F L mc ms) (mc := mc) (ms := ms) n hts hg rfl rfl rfl c4 hR
  refine va_calli (vx_runSW (As := As) (rest := rest) ⟨hx, hb, hml, hown, hts⟩ (hM H.size) hcw ⟨fun a U g mk q => ⟨q.1, ⟨q.2.1.1, q.2.1.2.1, q.2.1.2.2.1, q.2.1.2.2.2.1, kN.same (u := U) rfl q.2.1.2.2.2.2⟩, kZ.same (u := U) rfl q.2.2⟩, fun U hU hW => ⟨rfl, ⟨by rw [hU], by rw [hU]; exact hPc, va_K.moved hW.alike hK, hDc.weaken (fun _ _ _ _ => trivial), hN.warm hW⟩, by rw [hU]; exact kZ.go hW hS hFc hZ⟩⟩ rfl hn hl.1 hst (lv_room hcat) hd0 hcs) hS (fun q _ h => hFc q h) hFc (fun r2 u t H1 locs1 ht hvm hw2 hB hz1 hk1 hS1 => ?_)
  obtain ⟨hP1, hK1, hD1⟩ := hB
  rw [ht] at hP1
  subst hw2
  obtain ⟨hP2, hD2⟩ := k_joinP hP' hD' hk1 hFc hP1 hD1
  exact h u H1 locs1 ls hP2 hD2 hS1 hl
theorem k_slen (C : KC p s m args meth c cc nL own ret D tys A) {sb L : Nat} {xs : Nat → Int32} (hX : va_X sb L xs s s.heap) (hbl : sb < s.heap.size) (hbA : ¬ A sb) (hd : decode cc pc = .ok (.arraylength, 1)) (h : KJ p l e R s m args below meth c cells slots Q D A nL ws lv (.int (nI L) :: st) (pc + 1)) : KJ p l e R s m args below meth c cells slots Q D A nL ws lv (.ref sb :: st) pc := fun H locs ls hP hD hS hl => va_slen C.1 C.2.1 hX hbl hbA hS hd (h H locs ls hP hD hS hl)
theorem k_sld (C : KC p s m args meth c cc nL own ret D tys A) {sb L : Nat} {xs : Nat → Int32} (hX : va_X sb L xs s s.heap) (hbl : sb < s.heap.size) (hbA : ¬ A sb) {i : Int32} {k : Nat} (hi : i = nI k) (hk : k < L) (hL : L ≤ 260) (hd : decode cc pc = .ok (.iaload, 1)) (h : KJ p l e R s m args below meth c cells slots Q D A nL ws lv (.int (xs k) :: st) (pc + 1)) : KJ p l e R s m args below meth c cells slots Q D A nL ws lv (.int i :: .ref sb :: st) pc := by
  subst hi
  intro H locs ls hP hD hS hl
  refine va_sld C.1 C.2.1 hX hbl hbA hS (nI_in hk (by omega)) hd ?_
  rw [nI_clamp (by omega)]
  exact h H locs ls hP hD hS hl
/-- a call that reads the script: the array is no cell of the world -/
def kCi (l : Launch) (y : MethodName) (code : ByteArray) (nL F L : Nat) (D : va_G) (tys : List (ClassId × FieldType)) (sb N : Nat) (xs : Nat → Int32) (av : List Value) (r : Int32) : Prop :=
  ∀ sz : Nat, Met l y (.code y code nL (some .int) :: lw_all) (kRc F L 0 0) (va_Pc av (fun U => kPc D tys sz [] U ∧ sb < sz ∧ va_X sb N xs U U.heap)) (kQUi D tys sz [] r (fun _ : Unit => [])) 0 0 (va_A [] sz)
theorem kCi_of {y : MethodName} {code : ByteArray} {F L sb N : Nat} {xs : Nat → Int32} {av : List Value} {r : Int32} (hown : y.cls = own) (hlv : lv_args 0 av = lv) (hy : plainName y.cls = true) (hn : (lg_sl av).length ≤ nL) (body : ∀ (p : Program) (e : Env) (s : State) (m : MethodId) (args : Array Value) (below : List Frame) (meth : Method) (c : Code) (Q : State → Prop) (A : Nat → Prop), KC p s m args meth c code nL own (some .int) D tys A → va_X sb N xs s s.heap → sb < s.heap.size → ¬ A sb → (∀ (lv2 : List (Nat × Value)) (pc : Nat), decode code pc = .ok (.ireturn, 1) → KJ p l e (kRc F L 0 0) s m args below meth c 0 0 Q D A nL [] lv2 [.int r] pc) → KJ p l e (kRc F L 0 0) s m args below meth c 0 0 Q D A nL [] lv [] 0) : kCi l y code nL F L D tys sb N xs av r := by
  subst hown hlv
  intro sz
  refine Met.ofW (cc := code) (maxL := nL) (ret := (some .int)) hy rfl ?_
  intro p e s m args below meth c s₁ B hml hv
  obtain ⟨rfl, ⟨hsz, hP, hK, hD0, hN⟩, hsb, hX⟩ := hv
  subst hsz
  have hts := atoms_spec (ws := .code y code nL (some .int) :: lw_all) B.pre
  have hl := lv_entry av (n := nL) hn
  rw [lg_entry_eq]
  exact body p e s m _ below meth c _ _ ⟨B.exec, B.bytes, hml, findClass_of_methodNamed B.named, fun w h => hts w (List.mem_cons_of_mem _ h), hK, fun q h => Or.inr h, B.returns, B.notSynchronized, hN⟩ hX hsb (fun h => h.elim (fun ⟨k, e, hk⟩ => by simp at hk) (fun h => absurd hsb (Nat.not_lt.mpr h))) (fun lv2 pc hd => fun H locs ls hP hD hS hl => W.widen (k := 0) (n := 0) (Nat.le_refl _) (Nat.le_refl _) (W.zret B.exec B.bytes B.returns rfl (fun t ht hW => ⟨⟨_, (), rfl, rfl, by rw [ht]; exact hP, va_K.moved hW.alike hK, hD⟩, hS.F ht⟩) hS.2.2 hd B.notSynchronized)) s.heap [] _ hP hD0.self va_S.rf hl
theorem k_callCi (C : KC p s m args meth c cc nL own ret D tys A) {sb N : Nat} {xs : Nat → Int32} (hX : va_X sb N xs s s.heap) (hbl : sb < s.heap.size) (hbA : ¬ A sb) {As rest : List Value} {index n : Nat} {y : MethodName} {bytes : ByteArray} {maxL F L : Nat} {r : Int32} (hM : kCi l y bytes maxL F L D tys sb N xs As r) (cw : kCWs y bytes maxL (some .int) n) (hlk : Cond.methodLink own index y ∈ lw_all) (hst : st = As.reverse ++ rest) (hcat : (rest.map fun v => v.category).sum ≤ 8) (hR : F + 1 ≤ R.frames ∧ 8 + (maxL + 11) + L ≤ R.locals) (hn : As.length = n) (hcs : cells ≤ R.cells ∧ slots ≤ R.slots) (hd0 : decode cc pc = .ok (.invokestatic index, 3)) (h : KJ p l e R s m args below meth c cells slots Q D A nL ws lv (.int r :: rest) (pc + 3)) : KJ p l e R s m args below meth c cells slots Q D A nL ws lv st pc := by
  intro H locs ls hP hD hS hl
  obtain ⟨hx, hb, hml, hown, hts, hK, hA, hr0, hlks, hN⟩ := C
  have hpm : ws.Perm ([] ++ ws) := List.Perm.refl _
  have hP' := hP.perm hpm
  have hD' := hD.perm hpm
  have hPc : va_P D vwCl [] H := va_P.left hP'
  have hDc : va_D A [] := va_D.left hD'
  have hFc := va_free2 hDc hS hA
  have hXH : va_X sb N xs s H := hX.kept (hS.2.1 sb hbl hbA)
  have hbH : sb < H.size := Nat.lt_of_lt_of_le hbl hS.1
  obtain ⟨⟨c1, c2, c3⟩, c4⟩ := cw
  have hcw : CallB R s args own index y bytes maxL (some .int) (.code y bytes maxL (some .int) :: lw_all) (kRc F L 0 0) 0 0 n ∧ (Cond.static y).before args s = true := ⟨callB_of n hts (k_goodIn c1) rfl rfl rfl (hts _ c2) (hts _ hlk) c3 hR, hts _ c4⟩
  refine va_calli (va_runS (As := As) (rest := rest) ⟨hx, hb, hml, hown, hts⟩ (hM H.size) hcw ⟨fun a U g mk q => ⟨q.1, ⟨q.2.1.1, q.2.1.2.1, q.2.1.2.2.1, q.2.1.2.2.2.1, kN.same (u := U) rfl q.2.1.2.2.2.2⟩, q.2.2.1, q.2.2.2.moved (Vm.Alike.refl _)⟩, fun U hU hW => ⟨rfl, ⟨by rw [hU], by rw [hU]; exact hPc, va_K.moved hW.alike hK, hDc.weaken (fun _ _ _ _ => trivial), hN.warm hW⟩, hbH, by rw [hU]; exact hXH.moved hW.alike⟩⟩ rfl hn hl.1 hst (lv_room hcat) hd0 hcs) hS (fun q _ h => hFc q h) hFc (fun r2 u t H1 locs1 ht hvm hw2 hB hz1 hk1 hS1 => ?_)
  obtain ⟨hP1, hK1, hD1⟩ := hB
  rw [ht] at hP1
  subst hw2
  obtain ⟨hP2, hD2⟩ := k_joinP hP' hD' hk1 hFc hP1 hD1
  rw [List.append_nil] at hP2 hD2
  exact h H1 locs1 ls hP2 hD2 hS1 hl
theorem k_put0 {ws : va_W} : kput ws [] [] = ws := kputL_no [] [] ws 0 (fun i h => absurd h List.not_mem_nil)
/-- a static call of ints alone -/
theorem k_callS0 (C : KC p s m args meth c cc nL own ret D tys A) {As rest : List Value} {index n : Nat} {y : MethodName} {bytes : ByteArray} {maxL F L : Nat} {rt : FieldType} {r : Int32} (hM : kI l y bytes maxL rt F L D tys As [] r []) (cw : kCWs y bytes maxL (some rt) n) (hlk : Cond.methodLink own index y ∈ lw_all) (hst : st = As.reverse ++ rest) (hcat : (rest.map fun v => v.category).sum ≤ 8) (hR : F + 1 ≤ R.frames ∧ 8 + (maxL + 11) + L ≤ R.locals) (hn : As.length = n) (hcs : cells ≤ R.cells ∧ slots ≤ R.slots) (hd : decode cc pc = .ok (.invokestatic index, 3)) (h : KJ p l e R s m args below meth c cells slots Q D A nL ws lv (.int r :: rest) (pc + 3)) : KJ p l e R s m args below meth c cells slots Q D A nL ws lv st pc := k_callSi C hM cw hlk [] rfl rfl (by decide) k_put0 hst hcat hR hn hcs hd h
end PST
/-- what is seen of an object: now (ints, code), saved, how many States are made, what they hold, the text's length -/
abbrev pV : Type := (Nat → Nat → Int32) × Int64 × (Nat → Int32) × Nat × (Nat → Nat → Nat → Int32) × (Nat → Int64) × Int32
def pvis (X : kXS) (Y : kTS) : pV := (X.1, X.2.1, X.2.2.2.2.1, Y.1, Y.2.2.1, Y.2.2.2, X.2.2.2.2.2.1 1)
/-- an object that is seen so -/
def pX (V : pV) : kXS := (V.1, V.2.1, V.1, V.2.1, V.2.2.1, fun _ => V.2.2.2.2.2.2, fun _ => 0, fun _ => 0, fun _ => 0)
def pY (V : pV) : kTS := (V.2.2.2.1, fun _ _ => 0, V.2.2.2.2.1, V.2.2.2.2.2.1)
def pW (cI cO : ClassId) (b : Nat) (u : Nat → Nat) (q : kXS × kTS) : va_W := xpW cI cO b u q.1 q.2 ++ kTl cI q.2
/-- a wrapper's call over the object q: it answers r, and what is seen behind it is V2 -/
def pCq (l : Launch) (D : va_G) (cI cJ cO : ClassId) (z : zT) (y : MethodName) (code : ByteArray) (nL : Nat) (hh : List (Nat × Nat × Nat × Nat)) (As : List Value) (b : Nat) (u : Nat → Nat) (q : kXS × kTS) (r : Int32) (V2 : pV) : Prop :=
  ∃ (F L : Nat) (S : Type) (X2 : kXS) (Y2 : S → kTS), F ≤ 8 ∧ L ≤ 170 ∧ kWi l y code nL hh F L 26 331 D (kT cI cJ cO) z (.ref b :: As) (pW cI cO b u q) r (fun s => pW cI cO b u (X2, Y2 s)) ∧ ∀ s, pvis X2 (Y2 s) = V2
/-- the objects that are seen so -/
abbrev pSt (V : pV) : Type := { q : kXS × kTS // pvis q.1 q.2 = V }
/-- over every object that is seen as V -/
def pCall (l : Launch) (D : va_G) (cI cJ cO : ClassId) (z : zT) (y : MethodName) (code : ByteArray) (nL : Nat) (hh : List (Nat × Nat × Nat × Nat)) (As : List Value) (V : pV) (r : Int32) (V2 : pV) : Prop := ∀ (b : Nat) (u : Nat → Nat) (q : kXS × kTS), pvis q.1 q.2 = V → pCq l D cI cJ cO z y code nL hh As b u q r V2
abbrev pCw (y : MethodName) (code : ByteArray) (nL : Nat) (hh : List (Nat × Nat × Nat × Nat)) (n : Nat) : Prop := Cond.codeWith y code nL (some .int) hh ∈ lw_all ∧ Cond.initialized y.cls ∈ lw_all ∧ Cond.static y ∈ lw_all ∧ (y.cls ≠ "java/lang/invoke/MethodHandle" ∧ y.cls ≠ "java/lang/invoke/VarHandle" ∧ (parseMethodDescriptor y.desc).map (fun d => d.parameters.length) = some n)
section PSC
variable {p : Program} {l : Launch} {e : Env} {R : Room} {s : State} {m : MethodId} {args : Array Value} {below : List Frame} {meth : Method} {c : Code} {cells slots : Nat} {Q : State → Prop} {D : va_G} {A : Nat → Prop} {nL : Nat} {cc : ByteArray} {own : String} {ret : Option FieldType} {cI cJ cO : ClassId} {ws : va_W} {lv : List (Nat × Value)} {st : List Value} {pc : Nat} {z : zT}
theorem k_pcallP (C : KC p s m args meth c cc nL own ret D (kT cI cJ cO) A) (hZ : kZ z A s s.heap) {As rest : List Value} {index n maxL b : Nat} {y : MethodName} {bytes : ByteArray} {hh : List (Nat × Nat × Nat × Nat)} {u : Nat → Nat} {q : kXS × kTS} {wr : va_W} {r : Int32} {V2 : pV} (hM : pCq l D cI cJ cO z y bytes maxL hh As b u q r V2) (cw : pCw y bytes maxL hh n) (hlk : Cond.methodLink own index y ∈ lw_all) (hpm : ws.Perm (pW cI cO b u q ++ wr)) (hst : st = As.reverse ++ .ref b :: rest) (hcat : (rest.map fun v => v.category).sum ≤ 8) (hR : 9 ≤ R.frames ∧ maxL + 189 ≤ R.locals) (hn : As.length + 1 = n) (hcs : cells + 26 ≤ R.cells ∧ slots + 331 ≤ R.slots) (hd0 : decode cc pc = .ok (.invokestatic index, 3)) (h : ∀ q2 : kXS × kTS, pvis q2.1 q2.2 = V2 → KJ p l e R s m args below meth c (cells + 26) (slots + 331) Q D A nL (wr ++ pW cI cO b u q2) lv (.int r :: rest) (pc + 3)) : KJ p l e R s m args below meth c cells slots Q D A nL ws lv st pc := by
  obtain ⟨F, L, S, X2, Y2, hF, hL, hW, h2⟩ := hM
  exact k_callWi C hZ hW cw hlk hpm (by rw [hst]; simp) hcat ⟨by omega, by omega⟩ hn hcs hd0 (fun s9 => h (X2, Y2 s9) (h2 s9))
/-- with no other cell -/
theorem k_pcall (C : KC p s m args meth c cc nL own ret D (kT cI cJ cO) A) (hZ : kZ z A s s.heap) {As rest : List Value} {index n maxL b : Nat} {y : MethodName} {bytes : ByteArray} {hh : List (Nat × Nat × Nat × Nat)} {u : Nat → Nat} {q : kXS × kTS} {r : Int32} {V2 : pV} (hM : pCq l D cI cJ cO z y bytes maxL hh As b u q r V2) (cw : pCw y bytes maxL hh n) (hlk : Cond.methodLink own index y ∈ lw_all) (hst : st = As.reverse ++ .ref b :: rest) (hcat : (rest.map fun v => v.category).sum ≤ 8) (hR : 9 ≤ R.frames ∧ maxL + 189 ≤ R.locals) (hn : As.length + 1 = n) (hcs : cells + 26 ≤ R.cells ∧ slots + 331 ≤ R.slots) (hd0 : decode cc pc = .ok (.invokestatic index, 3)) (h : ∀ q2 : kXS × kTS, pvis q2.1 q2.2 = V2 → KJ p l e R s m args below meth c (cells + 26) (slots + 331) Q D A nL (pW cI cO b u q2) lv (.int r :: rest) (pc + 3)) : KJ p l e R s m args below meth c cells slots Q D A nL (pW cI cO b u q) lv st pc :=
  k_pcallP C hZ (wr := []) hM cw hlk (by rw [List.append_nil]) hst hcat hR hn hcs hd0 h
/-- the first of two objects -/
theorem k_pcall1 (C : KC p s m args meth c cc nL own ret D (kT cI cJ cO) A) (hZ : kZ z A s s.heap) {As rest : List Value} {index n maxL b : Nat} {y : MethodName} {bytes : ByteArray} {hh : List (Nat × Nat × Nat × Nat)} {u : Nat → Nat} {q : kXS × kTS} {wr : va_W} {r : Int32} {V2 : pV} (hM : pCq l D cI cJ cO z y bytes maxL hh As b u q r V2) (cw : pCw y bytes maxL hh n) (hlk : Cond.methodLink own index y ∈ lw_all) (hst : st = As.reverse ++ .ref b :: rest) (hcat : (rest.map fun v => v.category).sum ≤ 8) (hR : 9 ≤ R.frames ∧ maxL + 189 ≤ R.locals) (hn : As.length + 1 = n) (hcs : cells + 26 ≤ R.cells ∧ slots + 331 ≤ R.slots) (hd0 : decode cc pc = .ok (.invokestatic index, 3)) (h : ∀ q2 : kXS × kTS, pvis q2.1 q2.2 = V2 → KJ p l e R s m args below meth c (cells + 26) (slots + 331) Q D A nL (pW cI cO b u q2 ++ wr) lv (.int r :: rest) (pc + 3)) : KJ p l e R s m args below meth c cells slots Q D A nL (pW cI cO b u q ++ wr) lv st pc :=
  k_pcallP C hZ hM cw hlk (List.Perm.refl _) hst hcat hR hn hcs hd0 (fun q2 h2 => k_perm List.perm_append_comm (h q2 h2))
/-- the second -/
theorem k_pcall2 (C : KC p s m args meth c cc nL own ret D (kT cI cJ cO) A) (hZ : kZ z A s s.heap) {As rest : List Value} {index n maxL b : Nat} {y : MethodName} {bytes : ByteArray} {hh : List (Nat × Nat × Nat × Nat)} {u : Nat → Nat} {q : kXS × kTS} {wr : va_W} {r : Int32} {V2 : pV} (hM : pCq l D cI cJ cO z y bytes maxL hh As b u q r V2) (cw : pCw y bytes maxL hh n) (hlk : Cond.methodLink own index y ∈ lw_all) (hst : st = As.reverse ++ .ref b :: rest) (hcat : (rest.map fun v => v.category).sum ≤ 8) (hR : 9 ≤ R.frames ∧ maxL + 189 ≤ R.locals) (hn : As.length + 1 = n) (hcs : cells + 26 ≤ R.cells ∧ slots + 331 ≤ R.slots) (hd0 : decode cc pc = .ok (.invokestatic index, 3)) (h : ∀ q2 : kXS × kTS, pvis q2.1 q2.2 = V2 → KJ p l e R s m args below meth c (cells + 26) (slots + 331) Q D A nL (wr ++ pW cI cO b u q2) lv (.int r :: rest) (pc + 3)) : KJ p l e R s m args below meth c cells slots Q D A nL (wr ++ pW cI cO b u q) lv st pc :=
  k_pcallP C hZ hM cw hlk List.perm_append_comm hst hcat hR hn hcs hd0 h
/-- a method of the law over one object -/
theorem k_pmethP (C : KC p s m args meth c cc nL own ret D (kT cI cJ cO) A) (hZ : kZ z A s s.heap) {As rest : List Value} {index n maxL b F L mc ms : Nat} {y : MethodName} {bytes : ByteArray} {u : Nat → Nat} {q : kXS × kTS} {wr : va_W} {rt : FieldType} {r : Int32} {V2 : pV} (hM : kUi l y bytes maxL rt F L mc ms D (kT cI cJ cO) z (.ref b :: As) (pW cI cO b u q) r (fun w : pSt V2 => pW cI cO b u w.1)) (cw : kCWs y bytes maxL (some rt) n) (hlk : Cond.methodLink own index y ∈ lw_all) (hpm : ws.Perm (pW cI cO b u q ++ wr)) (hst : st = As.reverse ++ .ref b :: rest) (hcat : (rest.map fun v => v.category).sum ≤ 8) (hR : F + 1 ≤ R.frames ∧ 8 + (maxL + 11) + L ≤ R.locals) (hn : As.length + 1 = n) (hcs : cells + mc ≤ R.cells ∧ slots + ms ≤ R.slots) (hd0 : decode cc pc = .ok (.invokestatic index, 3)) (h : ∀ q2 : kXS × kTS, pvis q2.1 q2.2 = V2 → KJ p l e R s m args below meth c (cells + mc) (slots + ms) Q D A nL (wr ++ pW cI cO b u q2) lv (.int r :: rest) (pc + 3)) : KJ p l e R s m args below meth c cells slots Q D A nL ws lv st pc :=
  k_callUSiP C hZ hM cw hlk hpm (by rw [hst]; simp) hcat hR hn hcs hd0 (fun w => h w.1 w.2)
end PSC
/-! what a State keeps -/
theorem kb.eq {x y : Int32} (e : x = y) (h : kb y) : kb x := by rw [e]; exact h
theorem kIn.eq {x y : Int32} {a b : Int} (e : x = y) (h : kIn y a b) : kIn x a b := by rw [e]; exact h
theorem va_s {α : Type} {S : Nat → α} {a : Nat} {F : α} : va_up S a F a = F := by unfold va_up; rw [if_pos rfl]
theorem va_n {α : Type} {S : Nat → α} {a b : Nat} {F : α} (h : b ≠ a) : va_up S a F b = S b := by unfold va_up; rw [if_neg h]
def pOr (T : Int) (f0 f4 f5 f6 f9 : Nat → Int32) : Prop := kIn (f0 0) 0 T ∧ kIn (f4 1) 0 12 ∧ (kb (f5 1) ∧ kIn (f5 2) 0 11) ∧ (kb (f6 4) ∧ kb (f6 5)) ∧ kIn (f9 1) 0 59 ∧ kIn (f9 2) 0 60
def pOK (T : Int) (S : Nat → Nat → Int32) : Prop := pOr T (S 0) (S 4) (S 5) (S 6) (S 9)
theorem pOK.sb {T : Int} {S : Nat → Nat → Int32} (h : pOK T S) : kSb S := ⟨h.2.2.1.1, h.2.2.2.1.1, h.2.2.2.1.2⟩
theorem pOr.up {T T2 : Int} {f0 f4 f5 f6 f9 : Nat → Int32} (h : pOr T f0 f4 f5 f6 f9) (hT : T ≤ T2) : pOr T2 f0 f4 f5 f6 f9 := ⟨⟨h.1.1, Int.le_trans h.1.2 hT⟩, h.2⟩
theorem pOK.up {T T2 : Int} {S : Nat → Nat → Int32} (h : pOK T S) (hT : T ≤ T2) : pOK T2 S := pOr.up h hT
/-- the saved States' ring: next, made, how many count -/
def pRg (fs : Nat → Int32) (km : Nat) : Prop := ∃ ki n : Nat, fs 1 = nI ki ∧ ki < 6 ∧ ki ≤ km ∧ km ≤ 6 ∧ fs 2 = nI n ∧ n ≤ 6 ∧ (km = 6 ∨ n ≤ ki)
def pInv (T : Int) (V : pV) : Prop := pOK T V.1 ∧ (∀ k, k < V.2.2.2.1 → pOK T (V.2.2.2.2.1 k)) ∧ pRg V.2.2.1 V.2.2.2.1 ∧ V.2.2.2.2.2.2 = 0
theorem pInv.up {T T2 : Int} {V : pV} (h : pInv T V) (hT : T ≤ T2) : pInv T2 V := ⟨h.1.up hT, fun k hk => (h.2.1 k hk).up hT, h.2.2⟩
theorem kKf_1 {fs : Nat → Int32} : kKf fs 1 = (if 6 ≤ fs 1 + 1 then 0 else fs 1 + 1) := by unfold kKf; exact upn (by decide) ups
theorem kKf_2 {fs : Nat → Int32} : kKf fs 2 = (if 6 < fs 2 + 1 then 6 else fs 2 + 1) := by unfold kKf; exact ups
theorem pRg.keep {fs : Nat → Int32} {km ki : Nat} (h : pRg fs km) (hk : fs 1 = nI ki) (hk6 : ki < 6) : pRg (kKf fs) (kKm ki km) := by
  obtain ⟨k, n, h1, h2, h3, h4, h5, h6, h7⟩ := h
  have e : k = ki := by
    have := congrArg Int32.toInt (h1.symm.trans hk)
    rw [nI_toInt (by omega), nI_toInt (by omega)] at this
    omega
  subst e
  have a1 : kKf fs 1 = nI (if k = 5 then 0 else k + 1) := by
    rw [kKf_1, h1, ← nI_succ]
    by_cases c : k = 5
    · rw [if_pos c]
      subst c
      rfl
    · rw [if_neg c, if_neg]
      intro q
      have q2 := Int32.le_iff_toInt_le.mp q
      rw [nI_toInt (by omega), show Int32.toInt 6 = 6 by decide] at q2
      omega
  have a2 : kKf fs 2 = nI (if n = 6 then 6 else n + 1) := by
    rw [kKf_2, h5, ← nI_succ]
    by_cases c : n = 6
    · rw [if_pos c]
      subst c
      rfl
    · rw [if_neg c, if_neg]
      intro q
      have q2 := Int32.lt_iff_toInt_lt.mp q
      rw [nI_toInt (by omega), show Int32.toInt 6 = 6 by decide] at q2
      omega
  have b1 : ((if k = 5 then 0 else k + 1) = 0 ∧ k = 5) ∨ ((if k = 5 then 0 else k + 1) = k + 1 ∧ k ≠ 5) := by
    by_cases c : k = 5
    · exact Or.inl ⟨if_pos c, c⟩
    · exact Or.inr ⟨if_neg c, c⟩
  have b2 : ((if n = 6 then 6 else n + 1) = 6 ∧ n = 6) ∨ ((if n = 6 then 6 else n + 1) = n + 1 ∧ n ≠ 6) := by
    by_cases c : n = 6
    · exact Or.inl ⟨if_pos c, c⟩
    · exact Or.inr ⟨if_neg c, c⟩
  have b3 : (kKm k km = km + 1 ∧ k = km) ∨ (kKm k km = km ∧ k ≠ km) := by
    unfold kKm
    by_cases c : k = km
    · exact Or.inl ⟨if_pos c, c⟩
    · exact Or.inr ⟨if_neg c, c⟩
  generalize (if k = 5 then 0 else k + 1) = x at a1 b1
  generalize (if n = 6 then 6 else n + 1) = y at a2 b2
  generalize kKm k km = m2 at b3
  exact ⟨x, y, a1, by omega, by omega, by omega, a2, by omega, by omega⟩
theorem pRg.ki {fs : Nat → Int32} {km : Nat} (h : pRg fs km) : ∃ ki : Nat, fs 1 = nI ki ∧ ki < 6 ∧ ki ≤ km := by
  obtain ⟨k, n, h1, h2, h3, -⟩ := h
  exact ⟨k, h1, h2, h3⟩
theorem pInv.keep {T T2 : Int} {V : pV} {ki : Nat} (h : pInv T V) (hT : T ≤ T2) (hk : V.2.2.1 1 = nI ki) (hk6 : ki < 6) {S : Nat → Nat → Int32} (j : Int64) (hS : pOK T2 S) : pInv T2 (S, j, kKf V.2.2.1, kKm ki V.2.2.2.1, va_up V.2.2.2.2.1 ki V.1, va_up V.2.2.2.2.2.1 ki V.2.1, V.2.2.2.2.2.2) := by
  refine ⟨hS, fun k hkm => ?_, h.2.2.1.keep hk hk6, h.2.2.2⟩
  show pOK T2 (va_up V.2.2.2.2.1 ki V.1 k)
  by_cases c : k = ki
  · subst c
    rw [va_s]
    exact h.1.up hT
  · rw [va_n c]
    refine (h.2.1 k ?_).up hT
    have hm : k < (if ki = V.2.2.2.1 then V.2.2.2.1 + 1 else V.2.2.2.1) := hkm
    split at hm <;> omega
/-- undo: the State before the next place -/
theorem pRg.back {fs : Nat → Int32} {km : Nat} (h : pRg fs km) (hc : ¬ fs 2 ≤ 0) : ∃ ki : Nat, (if fs 1 ≤ 0 then 5 else fs 1 - 1) = nI ki ∧ ki < 6 ∧ ki < km ∧ pRg (upd (upd fs 1 (nI ki)) 2 (fs 2 - 1)) km := by
  obtain ⟨k, n, h1, h2, h3, h4, h5, h6, h7⟩ := h
  have hn : 0 < n := by
    rcases Nat.eq_zero_or_pos n with c | c
    · exact absurd (by rw [h5, c]; decide) hc
    · exact c
  have e2 : fs 2 - 1 = nI (n - 1) := by
    rw [h5]
    have : n = n - 1 + 1 := by omega
    rw [show nI n = nI (n - 1 + 1) by rw [← this], nI_succ]
    exact Int32.add_sub_cancel _ _
  have g1 : ∀ ki : Nat, upd (upd fs 1 (nI ki)) 2 (fs 2 - 1) 1 = nI ki := fun ki => upn (by decide) ups
  have g2 : ∀ ki : Nat, upd (upd fs 1 (nI ki)) 2 (fs 2 - 1) 2 = nI (n - 1) := fun ki => ups.trans e2
  by_cases c : k = 0
  · refine ⟨5, ?_, by omega, by omega, ⟨5, n - 1, g1 5, by omega, by omega, h4, g2 5, by omega, by omega⟩⟩
    rw [h1, c]
    rfl
  · refine ⟨k - 1, ?_, by omega, by omega, ⟨k - 1, n - 1, g1 _, by omega, by omega, h4, g2 _, by omega, by omega⟩⟩
    have : k = k - 1 + 1 := by omega
    rw [if_neg, h1, show nI k = nI (k - 1 + 1) by rw [← this], nI_succ]
    · exact Int32.add_sub_cancel _ _
    · intro q
      have q2 := Int32.le_iff_toInt_le.mp q
      rw [h1, nI_toInt (by omega), show Int32.toInt 0 = 0 by decide] at q2
      omega
