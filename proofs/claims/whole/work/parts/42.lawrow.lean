
/-- the reference's object: ints, w, saved, trial, text, told -/
abbrev kMS : Type := (Nat → Int32) × (Nat → Int64) × (Nat → Int64) × (Nat → Int64) × (Nat → Int32) × (Nat → Int32)
def moW (cI cJ : ClassId) (v : Nat → Nat) (M : kMS) : va_W := [(v 0, moE M.1 (v 1) (v 2) (v 3) (v 4) (v 5)), (v 1, jA cJ 294 M.2.1), (v 2, jA cJ 1764 M.2.2.1), (v 3, jA cJ 294 M.2.2.2.1), (v 4, iA cI 90 M.2.2.2.2.1), (v 5, iA cI 48 M.2.2.2.2.2)]
abbrev lawW (cI cJ cO cD : ClassId) (b o oD : Nat) (u v : Nat → Nat) (X : kXS) (Y : kTS) (M : kMS) (fo : Nat → Int64) (fd : Nat → UInt64) : va_W := (moW cI cJ v M ++ [(oD, dA cD 1 fd)]) ++ (xwW cI cJ cO b o u X Y fo ++ kTl cI Y)
/-- a call of a wrapper: it answers th, the out row holds rM when that is 0, the states behind it are in Rn -/
def lStep (l : Launch) (D : va_G) (cI cJ cO : ClassId) (z : zT) (y : MethodName) (code : ByteArray) (nL : Nat) (hh : List (Nat × Nat × Nat × Nat)) (av : List Value) (b o : Nat) (u : Nat → Nat) (X : kXS) (Y : kTS) (fo : Nat → Int64) (rM th : Int32) (Rn : kXS → kTS → Prop) : Prop :=
  ∃ (F L : Nat) (S : Type) (rt : Int32) (X2 : kXS) (Y2 : S → kTS) (fo2 : Nat → Int64), F ≤ 10 ∧ L ≤ 300 ∧ kWi l y code nL hh F L 26 331 D (kT cI cJ cO) z av (xwW cI cJ cO b o u X Y fo ++ kTl cI Y) rt (fun q => xwW cI cJ cO b o u X2 (Y2 q) fo2 ++ kTl cI (Y2 q)) ∧ th = rt ∧ (rt = 0 → fo2 0 = rM.toInt64) ∧ ∀ q, Rn X2 (Y2 q)
def lStepD (l : Launch) (D : va_G) (cI cJ cO cD : ClassId) (z : zT) (y : MethodName) (code : ByteArray) (nL : Nat) (hh : List (Nat × Nat × Nat × Nat)) (av : List Value) (b o oD : Nat) (u : Nat → Nat) (X : kXS) (Y : kTS) (fo : Nat → Int64) (fd : Nat → UInt64) (rM : UInt64) (th : Int32) : Prop :=
  ∃ (F L : Nat) (rt : Int32) (fd2 : Nat → UInt64), F ≤ 10 ∧ L ≤ 300 ∧ kWi l y code nL hh F L 26 331 D (kT4 cI cJ cO cD) z av ((oD, dA cD 1 fd) :: (xwW cI cJ cO b o u X Y fo ++ kTl cI Y)) rt (fun _ : Unit => ((oD, dA cD 1 fd2) :: (xwW cI cJ cO b o u X Y fo ++ kTl cI Y))) ∧ th = rt ∧ (rt = 0 → fd2 0 = rM ∧ vf_n64 rM)
def bz (x : Int32) : Int32 := if x = 0 then 0 else 1
theorem kb_bz (x : Int32) : kb (bz x) := by unfold bz; split; exact kb0; exact kb1
theorem nI_2 (n : Nat) : nI n + 2 = nI (n + 2) := by rw [nI_succ, nI_succ, Int32.add_assoc]; rfl
theorem nI_3 (n : Nat) : nI n + 3 = nI (n + 3) := by rw [nI_succ, ← nI_2, Int32.add_assoc]; rfl
theorem nI_4 (n : Nat) : nI n + 4 = nI (n + 4) := by rw [nI_succ, ← nI_3, Int32.add_assoc]; rfl
theorem nI_5 (n : Nat) : nI n + 5 = nI (n + 5) := by rw [nI_succ, ← nI_4, Int32.add_assoc]; rfl
section LAWR
variable {p : Program} {l : Launch} {e : Env} {R : Room} {s : State} {m : MethodId} {args : Array Value} {below : List Frame} {meth : Method} {c : Code} {cells slots : Nat} {Q : State → Prop} {D : va_G} {A : Nat → Prop} {nL : Nat} {cc : ByteArray} {own : String} {ret : Option FieldType} {tys : List (ClassId × FieldType)} {ws : va_W} {lv : List (Nat × Value)} {st : List Value} {pc : Nat} {z : zT}
theorem k_slen (C : KC p s m args meth c cc nL own ret D tys A) {sb L : Nat} {xs : Nat → Int32} (hX : va_X sb L xs s s.heap) (hbl : sb < s.heap.size) (hbA : ¬ A sb) (hd : decode cc pc = .ok (.arraylength, 1)) (h : KJ p l e R s m args below meth c cells slots Q D A nL ws lv (.int (nI L) :: st) (pc + 1)) : KJ p l e R s m args below meth c cells slots Q D A nL ws lv (.ref sb :: st) pc := fun H locs ls hP hD hS hl => va_slen C.1 C.2.1 hX hbl hbA hS hd (h H locs ls hP hD hS hl)
theorem k_sld (C : KC p s m args meth c cc nL own ret D tys A) {sb L : Nat} {xs : Nat → Int32} (hX : va_X sb L xs s s.heap) (hbl : sb < s.heap.size) (hbA : ¬ A sb) {i : Int32} {k : Nat} (hi : i = nI k) (hk : k < L) (hL : L ≤ 2560) (hd : decode cc pc = .ok (.iaload, 1)) (h : KJ p l e R s m args below meth c cells slots Q D A nL ws lv (.int (xs k) :: st) (pc + 1)) : KJ p l e R s m args below meth c cells slots Q D A nL ws lv (.int i :: .ref sb :: st) pc := by
  subst hi
  intro H locs ls hP hD hS hl
  refine va_sld C.1 C.2.1 hX hbl hbA hS (nI_in hk (by omega)) hd ?_
  rw [nI_clamp (by omega)]
  exact h H locs ls hP hD hS hl
theorem k_bz (C : KC p s m args meth c cc nL own ret D tys A) {x : Int32} (h0 : decode cc pc = .ok (.ifCond .eq 7, 3)) (h1 : decode cc (pc + 3) = .ok (.iconst 1, 1)) (h2 : decode cc (pc + 4) = .ok (.goto 4, 3)) (h3 : decode cc (pc + 7) = .ok (.iconst 0, 1)) (h : KJ p l e R s m args below meth c cells slots Q D A nL ws lv (.int (bz x) :: st) (pc + 8)) : KJ p l e R s m args below meth c cells slots Q D A nL ws lv (.int x :: st) pc := by
  refine k_if_eq C h0 (tgt := pc + 7) (by omega) (fun e => ?_) (fun e => ?_)
  · refine k_iconst (pc := pc + 7) C iconst_0 h3 ?_
    have : bz x = 0 := if_pos e
    rw [this] at h
    exact h
  · refine k_iconst (pc := pc + 3) C iconst_1 h1 ?_
    refine k_goto (pc := pc + 4) (tgt := pc + 8) C (by omega) h2 ?_
    have : bz x = 1 := if_neg e
    rw [this] at h
    exact h
theorem k_lstep {cI cJ cO cD : ClassId} (C : KC p s m args meth c cc nL own ret D (kT cI cJ cO) A) (hZ : kZ z A s s.heap) {As rest : List Value} {index n maxL b o oD : Nat} {y : MethodName} {bytes : ByteArray} {hh : List (Nat × Nat × Nat × Nat)} {u v : Nat → Nat} {X : kXS} {Y : kTS} {M : kMS} {fo : Nat → Int64} {fd : Nat → UInt64} {rM th : Int32} {Rn : kXS → kTS → Prop} (hM : lStep l D cI cJ cO z y bytes maxL hh As b o u X Y fo rM th Rn) (cw : Cond.codeWith y bytes maxL (some .int) hh ∈ lw_all ∧ Cond.initialized y.cls ∈ lw_all ∧ Cond.static y ∈ lw_all ∧ (y.cls ≠ "java/lang/invoke/MethodHandle" ∧ y.cls ≠ "java/lang/invoke/VarHandle" ∧ (parseMethodDescriptor y.desc).map (fun d => d.parameters.length) = some n)) (hlk : Cond.methodLink own index y ∈ lw_all) (hst : st = As.reverse ++ rest) (hcat : (rest.map fun v => v.category).sum ≤ 8) (hR : 11 ≤ R.frames ∧ 8 + (maxL + 11) + 300 ≤ R.locals) (hn : As.length = n) (hcs : cells + 26 ≤ R.cells ∧ slots + 331 ≤ R.slots) (hd0 : decode cc pc = .ok (.invokestatic index, 3)) (h : ∀ (rt : Int32) (X2 : kXS) (Y2 : kTS) (fo2 : Nat → Int64), th = rt → (rt = 0 → fo2 0 = rM.toInt64) → Rn X2 Y2 → KJ p l e R s m args below meth c (cells + 26) (slots + 331) Q D A nL (lawW cI cJ cO cD b o oD u v X2 Y2 M fo2 fd) lv (.int rt :: rest) (pc + 3)) : KJ p l e R s m args below meth c cells slots Q D A nL (lawW cI cJ cO cD b o oD u v X Y M fo fd) lv st pc := by
  obtain ⟨F, L, S, rt, X2, Y2, fo2, hF, hL, hW, h1, h2, h3⟩ := hM
  exact k_callWi C hZ hW cw hlk List.perm_append_comm hst hcat ⟨by omega, by omega⟩ hn hcs hd0 (fun q => h rt X2 (Y2 q) fo2 h1 h2 (h3 q))
theorem k_lstepD {cI cJ cO cD : ClassId} (C : KC p s m args meth c cc nL own ret D (kT4 cI cJ cO cD) A) (hZ : kZ z A s s.heap) {As rest : List Value} {index n maxL b o oD : Nat} {y : MethodName} {bytes : ByteArray} {hh : List (Nat × Nat × Nat × Nat)} {u v : Nat → Nat} {X : kXS} {Y : kTS} {M : kMS} {fo : Nat → Int64} {fd : Nat → UInt64} {rM : UInt64} {th : Int32} (hM : lStepD l D cI cJ cO cD z y bytes maxL hh As b o oD u X Y fo fd rM th) (cw : Cond.codeWith y bytes maxL (some .int) hh ∈ lw_all ∧ Cond.initialized y.cls ∈ lw_all ∧ Cond.static y ∈ lw_all ∧ (y.cls ≠ "java/lang/invoke/MethodHandle" ∧ y.cls ≠ "java/lang/invoke/VarHandle" ∧ (parseMethodDescriptor y.desc).map (fun d => d.parameters.length) = some n)) (hlk : Cond.methodLink own index y ∈ lw_all) (hst : st = As.reverse ++ rest) (hcat : (rest.map fun v => v.category).sum ≤ 8) (hR : 11 ≤ R.frames ∧ 8 + (maxL + 11) + 300 ≤ R.locals) (hn : As.length = n) (hcs : cells + 26 ≤ R.cells ∧ slots + 331 ≤ R.slots) (hd0 : decode cc pc = .ok (.invokestatic index, 3)) (h : ∀ (rt : Int32) (fd2 : Nat → UInt64), th = rt → (rt = 0 → fd2 0 = rM ∧ vf_n64 rM) → KJ p l e R s m args below meth c (cells + 26) (slots + 331) Q D A nL (lawW cI cJ cO cD b o oD u v X Y M fo fd2) lv (.int rt :: rest) (pc + 3)) : KJ p l e R s m args below meth c cells slots Q D A nL (lawW cI cJ cO cD b o oD u v X Y M fo fd) lv st pc := by
  obtain ⟨F, L, rt, fd2, hF, hL, hW, h1, h2⟩ := hM
  refine k_callWi C hZ hW cw hlk (wr := moW cI cJ v M) ?_ hst hcat ⟨by omega, by omega⟩ hn hcs hd0 (fun _ => ?_)
  · show ((moW cI cJ v M ++ [(oD, dA cD 1 fd)]) ++ (xwW cI cJ cO b o u X Y fo ++ kTl cI Y)).Perm _
    rw [List.append_assoc]
    exact List.perm_append_comm
  · refine k_show (ws2 := moW cI cJ v M ++ ([(oD, dA cD 1 fd2)] ++ (xwW cI cJ cO b o u X Y fo ++ kTl cI Y))) rfl ?_
    rw [← List.append_assoc]
    exact h rt fd2 h1 h2
end LAWR