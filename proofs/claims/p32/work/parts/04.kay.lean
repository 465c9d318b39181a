
/-! KJ: the machine at pc, with any heap that holds the world ws and any locals that hold lv, comes to Q. KC: what stays the same in a method's body. -/
def kT (cI cJ cO : ClassId) : List (ClassId × FieldType) := [(cI, .int), (cJ, .byte), (cO, .object "ClimateChamber$State")]
def kR (F L : Nat) : Room := { frames := F, cells := 0, slots := 0, locals := L }
def k_isNest : Cond → Bool
  | .methodLinkNest .. | .fieldLinkNest .. => true
  | _ => false
/-- the words of nest mates: they are handed on beside the others -/
def lw_nest : List Cond := lw_tbl.filter k_isNest
def kN (U : State) : Prop := ∀ w ∈ lw_nest, va_Nw w U
theorem kqn {w : Cond} (i : Nat) (h : lw_tbl[i]? = some w) (g : k_isNest w = true) : w ∈ lw_nest := List.mem_filter.mpr ⟨List.mem_of_getElem? h, g⟩
theorem k_nestTab {w : Cond} (h : w ∈ lw_nest) : w.onTables = true := by
  have g := (List.mem_filter.mp h).2
  cases w <;> first | rfl | (simp [k_isNest] at g)
theorem kN.warm {s U : State} (hW : s.WarmedH U.vm) (h : kN s) : kN U := by
  intro w hw
  have g := (List.mem_filter.mp hw).2
  cases w <;> first | exact va_Nw.warmM hW (h _ hw) | exact va_Nw.warmF hW (h _ hw) | (simp [k_isNest] at g)
theorem kN.same {u U : State} (hvm : u.vm = U.vm) (h : kN u) : kN U := fun w hw => (h w hw).same (k_nestTab hw) hvm
theorem kN.of {args : Array Value} {U : State} (h : ∀ w ∈ lw_tbl, w.before args U = true) : kN U := fun w hw => va_Nw.of (k_nestTab hw) (h w (List.mem_filter.mp hw).1)
def KC (p : Program) (s : State) (m : MethodId) (args : Array Value) (meth : Method) (c : Code) (cc : ByteArray) (nL : Nat) (own : String) (ret : Option FieldType) (D : va_G) (tys : List (ClassId × FieldType)) (A : Nat → Prop) : Prop :=
  p.tables.exec = Jvm.exec ∧ c.code = cc ∧ c.maxLocals = nL ∧ s.vm.findClass own = some m.cls ∧ (∀ w ∈ lw_all, w.before args s = true) ∧ va_K D vwCl tys s ∧ (∀ q : Nat, s.heap.size ≤ q → A q) ∧ meth.sig.returnType = ret ∧ meth.locks = false ∧ kN s
def KJ (p : Program) (l : Launch) (e : Env) (R : Room) (s : State) (m : MethodId) (args : Array Value) (below : List Frame) (meth : Method) (c : Code) (cells slots : Nat) (Q : State → Prop) (D : va_G) (A : Nat → Prop) (nL : Nat) (ws : va_W) (lv : List (Nat × Value)) (st : List Value) (pc : Nat) : Prop :=
  ∀ (H : Heap) (locs : List Loc) (ls : Array Slot), va_P D vwCl ws H → va_D A ws → va_S A s.heap H locs → lv_has ls nL lv → W p l e R s m args below meth c H locs cells slots Q (F0 m pc ls st)
/-- a method's end: this answer, this world -/
def kB (D : va_G) (tys : List (ClassId × FieldType)) (ws : va_W) (A : Nat → Prop) : State → Prop := fun t => va_P D vwCl ws t.heap ∧ va_K D vwCl tys t ∧ va_D A ws
def kPc (D : va_G) (tys : List (ClassId × FieldType)) (sz : Nat) (ws : va_W) : State → Prop := fun U => U.heap.size = sz ∧ va_P D vwCl ws U.heap ∧ va_K D vwCl tys U ∧ va_D (fun _ => True) ws ∧ kN U
abbrev kQi (D : va_G) (tys : List (ClassId × FieldType)) (sz : Nat) (ws : va_W) (r : Int32) (ws' : va_W) := va_Qi (fun (r' : Int32) (_ : Unit) => r' = r) (fun _ => kB D tys ws' (va_A ws sz)) (va_A ws sz)
abbrev kQl (D : va_G) (tys : List (ClassId × FieldType)) (sz : Nat) (ws : va_W) (r : Int64) (ws' : va_W) := va_Ql (fun (r' : Int64) (_ : Unit) => r' = r) (fun _ => kB D tys ws' (va_A ws sz)) (va_A ws sz)
abbrev kQv (D : va_G) (tys : List (ClassId × FieldType)) (sz : Nat) (ws : va_W) (ws' : va_W) := va_Qv (fun (_ : Unit) => True) (fun _ => kB D tys ws' (va_A ws sz)) (va_A ws sz)
/-- contracts: from the world ws the method answers r and leaves ws'; it makes no cell -/
def kI (l : Launch) (y : MethodName) (code : ByteArray) (nL : Nat) (rt : FieldType) (F L : Nat) (D : va_G) (tys : List (ClassId × FieldType)) (av : List Value) (ws : va_W) (r : Int32) (ws' : va_W) : Prop :=
  ∀ sz : Nat, Met l y (.code y code nL (some rt) :: lw_all) (kR F L) (va_Pc av (kPc D tys sz ws)) (kQi D tys sz ws r ws') 0 0 (va_A ws sz)
def kL (l : Launch) (y : MethodName) (code : ByteArray) (nL : Nat) (rt : FieldType) (F L : Nat) (D : va_G) (tys : List (ClassId × FieldType)) (av : List Value) (ws : va_W) (r : Int64) (ws' : va_W) : Prop :=
  ∀ sz : Nat, Met l y (.code y code nL (some rt) :: lw_all) (kR F L) (va_Pc av (kPc D tys sz ws)) (kQl D tys sz ws r ws') 0 0 (va_A ws sz)
def kV (l : Launch) (y : MethodName) (code : ByteArray) (nL : Nat) (F L : Nat) (D : va_G) (tys : List (ClassId × FieldType)) (av : List Value) (ws : va_W) (ws' : va_W) : Prop :=
  ∀ sz : Nat, Met l y (.code y code nL none :: lw_all) (kR F L) (va_Pc av (kPc D tys sz ws)) (kQv D tys sz ws ws') 0 0 (va_A ws sz)
/-- a callee's words -/
def kCW (y : MethodName) (bytes : ByteArray) (maxL : Nat) (ret : Option FieldType) (n : Nat) : Prop := Cond.code y bytes maxL ret ∈ lw_all ∧ Cond.initialized y.cls ∈ lw_all ∧ (y.cls ≠ "java/lang/invoke/MethodHandle" ∧ y.cls ≠ "java/lang/invoke/VarHandle" ∧ (parseMethodDescriptor y.desc).map (fun d => d.parameters.length) = some n)
def kCWv (y : MethodName) (bytes : ByteArray) (maxL : Nat) (ret : Option FieldType) (n : Nat) : Prop := kCW y bytes maxL ret n ∧ Cond.instanceMethod y ∈ lw_all ∧ Cond.selects y.cls y y ∈ lw_all
def kCWs (y : MethodName) (bytes : ByteArray) (maxL : Nat) (ret : Option FieldType) (n : Nat) : Prop := kCW y bytes maxL ret n ∧ Cond.static y ∈ lw_all
theorem k_goodIn {y : MethodName} {bytes : ByteArray} {maxL : Nat} {ret : Option FieldType} (h : Cond.code y bytes maxL ret ∈ lw_all) : GoodIn lw_all (Cond.code y bytes maxL ret :: lw_all) := by
  intro w hw
  rcases List.mem_cons.mp hw with e | h2
  · rw [e]; exact ⟨h, good_of_word (k_good _ h)⟩
  · exact ⟨h2, good_of_word (k_good _ h2)⟩
/-- the world with the cells at 'is' put anew -/
def kfind (k : Nat) (x : Nat × va_E) : List Nat → va_W → Nat × va_E
  | i :: is, c :: cs => bif Nat.beq i k then c else kfind k x is cs
  | _, _ => x
def kputL (is : List Nat) (cs : va_W) : va_W → Nat → va_W
  | [], _ => []
  | x :: xs, k => kfind k x is cs :: kputL is cs xs (k + 1)
def kput (ws : va_W) (is : List Nat) (cs : va_W) : va_W := kputL is cs ws 0
theorem kfind_spec (k : Nat) (x : Nat × va_E) : ∀ (is : List Nat) (cs : va_W), is.length = cs.length → (∃ j : Nat, is[j]? = some k ∧ cs[j]? = some (kfind k x is cs)) ∨ (k ∉ is ∧ kfind k x is cs = x)
  | [], [], _ => Or.inr ⟨List.not_mem_nil, rfl⟩
  | [], _ :: _, h => by simp at h
  | _ :: _, [], h => by simp at h
  | i :: is, c :: cs, h => by
    by_cases hk : Nat.beq i k = true
    · have e : kfind k x (i :: is) (c :: cs) = c := by
        show (bif Nat.beq i k then c else kfind k x is cs) = c
        rw [hk]; rfl
      have hi : i = k := Nat.eq_of_beq_eq_true hk
      refine Or.inl ⟨0, ?_, ?_⟩
      · rw [List.getElem?_cons_zero, hi]
      · rw [List.getElem?_cons_zero, e]
    · have hk2 : Nat.beq i k = false := by cases hb : Nat.beq i k <;> simp_all
      have e : kfind k x (i :: is) (c :: cs) = kfind k x is cs := by
        show (bif Nat.beq i k then c else kfind k x is cs) = _
        rw [hk2]; rfl
      have hne : k ≠ i := fun z => hk (by rw [z]; exact Nat.beq_refl i)
      rw [e]
      rcases kfind_spec k x is cs (by simpa using h) with ⟨j, h1, h2⟩ | ⟨h1, h2⟩
      · exact Or.inl ⟨j + 1, by rw [List.getElem?_cons_succ]; exact h1, by rw [List.getElem?_cons_succ]; exact h2⟩
      · exact Or.inr ⟨fun hm => (List.mem_cons.mp hm).elim hne h1, h2⟩
theorem kputL_get (is : List Nat) (cs : va_W) : ∀ (ws : va_W) (k0 k : Nat), (kputL is cs ws k0)[k]? = (ws[k]?).map (fun x => kfind (k0 + k) x is cs)
  | [], k0, k => by simp [kputL]
  | x :: xs, k0, 0 => by simp [kputL]
  | x :: xs, k0, k + 1 => by
    show (kfind k0 x is cs :: kputL is cs xs (k0 + 1))[k + 1]? = ((x :: xs)[k + 1]?).map _
    rw [List.getElem?_cons_succ, List.getElem?_cons_succ, kputL_get is cs xs (k0 + 1) k]
    rw [show k0 + 1 + k = k0 + (k + 1) by omega]
theorem kput_get (is : List Nat) (ws cs : va_W) (hl : is.length = cs.length) (k : Nat) (q : Nat × va_E) (h : (kput ws is cs)[k]? = some q) : (∃ j : Nat, is[j]? = some k ∧ cs[j]? = some q) ∨ (k ∉ is ∧ ws[k]? = some q) := by
  unfold kput at h
  rw [kputL_get, Nat.zero_add] at h
  cases hw : ws[k]? with
  | none => rw [hw] at h; cases h
  | some x =>
    rw [hw] at h
    have hq : kfind k x is cs = q := Option.some.inj h
    rcases kfind_spec k x is cs hl with ⟨j, h1, h2⟩ | ⟨h1, h2⟩
    · exact Or.inl ⟨j, h1, by rw [← hq]; exact h2⟩
    · exact Or.inr ⟨h1, by rw [← hq, h2]⟩
/-- behind a call that makes no cell -/
theorem k_back {A0 : Nat → Prop} {D : va_G} {ws wc wc' ws' : va_W} {H H1 : Heap} (hP : va_P D vwCl ws H) (hD : va_D A0 ws) (isC : List Nat) (hC : isC.map (fun i => ws[i]?) = wc.map some) (ha : wc'.map (fun q => q.1) = wc.map (fun q => q.1)) (hn : va_nd isC = true) (hw : kput ws isC wc' = ws')
    (hk : ∀ q : Nat, q < H.size → ¬ va_A wc H.size q → H1[q]? = H[q]?) (hP1 : va_P D vwCl wc' H1) : va_P D vwCl ws' H1 ∧ va_D A0 ws' := by
  subst hw
  have hl1 : isC.length = wc.length := by simpa using congrArg List.length hC
  have hl2 : wc'.length = wc.length := by simpa using congrArg List.length ha
  have hin : ∀ i ∈ isC, i < ws.length := by
    intro i hi
    obtain ⟨j, hj⟩ := List.getElem?_of_mem hi
    have h1 : (isC.map (fun i => ws[i]?))[j]? = some (ws[i]?) := by rw [List.getElem?_map, hj]; rfl
    rw [hC, List.getElem?_map] at h1
    cases hw : wc[j]? with
    | none => rw [hw] at h1; cases h1
    | some z =>
      rw [hw] at h1
      have h2 : some z = ws[i]? := Option.some.inj h1
      exact (List.getElem?_eq_some_iff.mp h2.symm).1
  have hcz : ∀ (j k : Nat), isC[j]? = some k → ∃ z, wc[j]? = some z ∧ ws[k]? = some z := by
    intro j k hj
    have h1 : (isC.map (fun i => ws[i]?))[j]? = some (ws[k]?) := by rw [List.getElem?_map, hj]; rfl
    rw [hC, List.getElem?_map] at h1
    cases hw : wc[j]? with
    | none => rw [hw] at h1; cases h1
    | some z => rw [hw] at h1; exact ⟨z, rfl, (Option.some.inj h1).symm⟩
  have had : ∀ (j : Nat) (q z : Nat × va_E), wc'[j]? = some q → wc[j]? = some z → q.1 = z.1 := by
    intro j q z h1 h2
    have h3 : (wc'.map (fun q => q.1))[j]? = some q.1 := by rw [List.getElem?_map, h1]; rfl
    rw [ha, List.getElem?_map, h2] at h3
    exact (Option.some.inj h3).symm
  have key : ∀ (k : Nat) (q : Nat × va_E), (kput ws isC wc')[k]? = some q → ∃ z, ws[k]? = some z ∧ q.1 = z.1 ∧ ((∃ j : Nat, wc'[j]? = some q) ∨ (k ∉ isC ∧ q = z)) := by
    intro k q h
    rcases kput_get isC ws wc' (by omega) k q h with ⟨j, h1, h2⟩ | ⟨h1, h2⟩
    · obtain ⟨z, h3, h4⟩ := hcz j k h1
      exact ⟨z, h4, had j q z h2 h3, Or.inl ⟨j, h2⟩⟩
    · exact ⟨q, h2, rfl, Or.inr ⟨h1, rfl⟩⟩
  refine ⟨fun k q h => ?_, fun i j x y hx hy hxy => ?_, fun k q h => ?_⟩
  · obtain ⟨z, h1, h2, ⟨j, h3⟩ | ⟨h3, rfl⟩⟩ := key k q h
    · exact hP1 j q h3
    · refine (hP k q h1).kept (hk q.1 (hP k q h1).lt fun hA => ?_)
      rcases hA with ⟨k2, e, h4⟩ | h4
      · have h5 : (isC.map (fun i => ws[i]?))[k2]? = some (some (q.1, e)) := by rw [hC, List.getElem?_map, h4]; rfl
        rw [List.getElem?_map] at h5
        cases hi : isC[k2]? with
        | none => rw [hi] at h5; cases h5
        | some i =>
          rw [hi] at h5
          have h6 : ws[i]? = some (q.1, e) := Option.some.inj h5
          have := hD.1 k i q (q.1, e) h1 h6 rfl
          subst this
          exact h3 (List.mem_of_getElem? hi)
      · exact absurd (hP k q h1).lt (by omega)
  · obtain ⟨z, h1, h2, -⟩ := key i x hx
    obtain ⟨z2, h3, h4, -⟩ := key j y hy
    exact hD.1 i j z z2 h1 h3 (by rw [← h2, ← h4]; exact hxy)
  · obtain ⟨z, h1, h2, -⟩ := key k q h
    rw [h2]; exact hD.2 k z h1
theorem k_vin {n : Nat} {i : Int32} (hn : n < 2 ^ 31) (lo : ¬ i < 0) (hi : i < nI n) : vp_in i n := by
  refine vp_in_iff.mpr ⟨?_, ?_⟩
  · have h : ¬ i.toInt < (0 : Int32).toInt := fun z => lo (Int32.lt_iff_toInt_lt.mpr z)
    exact Int.not_lt.mp h
  · have h := Int32.lt_iff_toInt_lt.mp hi
    rw [nI_toInt hn] at h
    exact h
theorem k_vinc {n : Nat} {i : Int32} (k : Nat) (hk : i.toNatClampNeg = k) (lo : ¬ i < 0) (hi : k < n) : vp_in i n := fun h => h.elim lo (fun z => by omega)
theorem k_le0 {i : Int32} (h : 0 ≤ i) : ¬ i < 0 := fun z => by
  have a := Int32.le_iff_toInt_le.mp h
  have b := Int32.lt_iff_toInt_lt.mp z
  omega
theorem k_nle {a b : Int32} (h : ¬ a ≤ b) : b < a := by
  have a1 : ¬ a.toInt ≤ b.toInt := fun z => h (Int32.le_iff_toInt_le.mpr z)
  exact Int32.lt_iff_toInt_lt.mpr (by omega)
theorem k_nz {y : Int32} (h : 0 < y) : ¬ y = 0 := fun z => by
  have a := Int32.lt_iff_toInt_lt.mp h
  rw [z] at a
  omega
theorem k_nz2 {y : Int32} (h : ¬ y ≤ 0) : ¬ y = 0 := k_nz (k_nle h)
section KAY
variable {p : Program} {l : Launch} {e : Env} {R : Room} {s : State} {m : MethodId} {args : Array Value} {below : List Frame} {meth : Method} {c : Code} {cells slots : Nat} {Q : State → Prop} {D : va_G} {A : Nat → Prop} {nL : Nat} {cc : ByteArray} {own : String} {ret : Option FieldType} {tys : List (ClassId × FieldType)} {ws : va_W} {lv : List (Nat × Value)} {st : List Value} {pc : Nat}
theorem k_iconst (C : KC p s m args meth c cc nL own ret D tys A) {n : Int} {v : Int32} (hv : Int32.ofInt n = v) (hd : decode cc pc = .ok (.iconst n, 1)) (h : KJ p l e R s m args below meth c cells slots Q D A nL ws lv (.int v :: st) (pc + 1)) : KJ p l e R s m args below meth c cells slots Q D A nL ws lv st pc := fun H locs ls hP hD hS hl => lv_iconst C.1 C.2.1 hd hv (h H locs ls hP hD hS hl)
theorem k_bipush (C : KC p s m args meth c cc nL own ret D tys A) {n : Int} {v : Int32} (hv : (Int8.ofInt n).toInt32 = v) (hd : decode cc pc = .ok (.bipush n, 2)) (h : KJ p l e R s m args below meth c cells slots Q D A nL ws lv (.int v :: st) (pc + 2)) : KJ p l e R s m args below meth c cells slots Q D A nL ws lv st pc := fun H locs ls hP hD hS hl => lv_bipush C.1 C.2.1 hd hv (h H locs ls hP hD hS hl)
theorem k_sipush (C : KC p s m args meth c cc nL own ret D tys A) {n : Int} {v : Int32} (hv : (Int16.ofInt n).toInt32 = v) (hd : decode cc pc = .ok (.sipush n, 3)) (h : KJ p l e R s m args below meth c cells slots Q D A nL ws lv (.int v :: st) (pc + 3)) : KJ p l e R s m args below meth c cells slots Q D A nL ws lv st pc := fun H locs ls hP hD hS hl => lv_sipush C.1 C.2.1 hd hv (h H locs ls hP hD hS hl)
theorem k_lconst (C : KC p s m args meth c cc nL own ret D tys A) {n : Fin 2} {v : Int64} (hv : Int64.ofNat (n : Nat) = v) (hd : decode cc pc = .ok (.lconst n, 1)) (h : KJ p l e R s m args below meth c cells slots Q D A nL ws lv (.long v :: st) (pc + 1)) : KJ p l e R s m args below meth c cells slots Q D A nL ws lv st pc := fun H locs ls hP hD hS hl => lv_lconst C.1 C.2.1 hd hv (h H locs ls hP hD hS hl)
theorem k_iload (C : KC p s m args meth c cc nL own ret D tys A) {i : Nat} {x : Int32} (k : Nat) (hk : lv[k]? = some (i, .int x)) (hd : decode cc pc = .ok (.iload i, 2)) (h : KJ p l e R s m args below meth c cells slots Q D A nL ws lv (.int x :: st) (pc + 2)) : KJ p l e R s m args below meth c cells slots Q D A nL ws lv st pc := fun H locs ls hP hD hS hl => lv_iload C.1 C.2.1 hd (lv_at hl k hk) (h H locs ls hP hD hS hl)
theorem k_iload_n (C : KC p s m args meth c cc nL own ret D tys A) {z : Fin 4} {i : Nat} {x : Int32} (hz : (z : Nat) = i) (k : Nat) (hk : lv[k]? = some (i, .int x)) (hd : decode cc pc = .ok (.iload_n z, 1)) (h : KJ p l e R s m args below meth c cells slots Q D A nL ws lv (.int x :: st) (pc + 1)) : KJ p l e R s m args below meth c cells slots Q D A nL ws lv st pc := fun H locs ls hP hD hS hl => lv_iload_n C.1 C.2.1 hd hz (lv_at hl k hk) (h H locs ls hP hD hS hl)
theorem k_aload (C : KC p s m args meth c cc nL own ret D tys A) {i : Nat} {x : Nat} (k : Nat) (hk : lv[k]? = some (i, .ref x)) (hd : decode cc pc = .ok (.aload i, 2)) (h : KJ p l e R s m args below meth c cells slots Q D A nL ws lv (.ref x :: st) (pc + 2)) : KJ p l e R s m args below meth c cells slots Q D A nL ws lv st pc := fun H locs ls hP hD hS hl => lv_aload C.1 C.2.1 hd (lv_at hl k hk) (h H locs ls hP hD hS hl)
theorem k_aload_n (C : KC p s m args meth c cc nL own ret D tys A) {z : Fin 4} {i : Nat} {x : Nat} (hz : (z : Nat) = i) (k : Nat) (hk : lv[k]? = some (i, .ref x)) (hd : decode cc pc = .ok (.aload_n z, 1)) (h : KJ p l e R s m args below meth c cells slots Q D A nL ws lv (.ref x :: st) (pc + 1)) : KJ p l e R s m args below meth c cells slots Q D A nL ws lv st pc := fun H locs ls hP hD hS hl => lv_aload_n C.1 C.2.1 hd hz (lv_at hl k hk) (h H locs ls hP hD hS hl)
theorem k_lload (C : KC p s m args meth c cc nL own ret D tys A) {i : Nat} {x : Int64} (k : Nat) (hk : lv[k]? = some (i, .long x)) (hd : decode cc pc = .ok (.lload i, 2)) (h : KJ p l e R s m args below meth c cells slots Q D A nL ws lv (.long x :: st) (pc + 2)) : KJ p l e R s m args below meth c cells slots Q D A nL ws lv st pc := fun H locs ls hP hD hS hl => lv_lload C.1 C.2.1 hd (lv_at hl k hk) (h H locs ls hP hD hS hl)
theorem k_lload_n (C : KC p s m args meth c cc nL own ret D tys A) {z : Fin 4} {i : Nat} {x : Int64} (hz : (z : Nat) = i) (k : Nat) (hk : lv[k]? = some (i, .long x)) (hd : decode cc pc = .ok (.lload_n z, 1)) (h : KJ p l e R s m args below meth c cells slots Q D A nL ws lv (.long x :: st) (pc + 1)) : KJ p l e R s m args below meth c cells slots Q D A nL ws lv st pc := fun H locs ls hP hD hS hl => lv_lload_n C.1 C.2.1 hd hz (lv_at hl k hk) (h H locs ls hP hD hS hl)
theorem k_dload (C : KC p s m args meth c cc nL own ret D tys A) {i : Nat} {x : UInt64} (k : Nat) (hk : lv[k]? = some (i, .double x)) (hd : decode cc pc = .ok (.dload i, 2)) (h : KJ p l e R s m args below meth c cells slots Q D A nL ws lv (.double x :: st) (pc + 2)) : KJ p l e R s m args below meth c cells slots Q D A nL ws lv st pc := fun H locs ls hP hD hS hl => lv_dload C.1 C.2.1 hd (lv_at hl k hk) (h H locs ls hP hD hS hl)
theorem k_istore (C : KC p s m args meth c cc nL own ret D tys A) {i : Nat} {x : Int32} {lv2 : List (Nat × Value)} (hn : i < nL) (hl2 : (i, Value.int x) :: lv.filter (fun q => !(q.1 == i) && !(q.1 + 1 == i && q.2.category == 2)) = lv2) (hd : decode cc pc = .ok (.istore i, 2)) (h : KJ p l e R s m args below meth c cells slots Q D A nL ws lv2 st (pc + 2)) : KJ p l e R s m args below meth c cells slots Q D A nL ws lv (.int x :: st) pc := fun H locs ls hP hD hS hl => lv_istore C.1 C.2.1 hd hl hn hl2 (fun ls2 hl3 => h H locs ls2 hP hD hS hl3)
theorem k_istore_n (C : KC p s m args meth c cc nL own ret D tys A) {z : Fin 4} {i : Nat} {x : Int32} {lv2 : List (Nat × Value)} (hz : (z : Nat) = i) (hn : i < nL) (hl2 : (i, Value.int x) :: lv.filter (fun q => !(q.1 == i) && !(q.1 + 1 == i && q.2.category == 2)) = lv2) (hd : decode cc pc = .ok (.istore_n z, 1)) (h : KJ p l e R s m args below meth c cells slots Q D A nL ws lv2 st (pc + 1)) : KJ p l e R s m args below meth c cells slots Q D A nL ws lv (.int x :: st) pc := fun H locs ls hP hD hS hl => lv_istore_n C.1 C.2.1 hd hz hl hn hl2 (fun ls2 hl3 => h H locs ls2 hP hD hS hl3)
theorem k_astore (C : KC p s m args meth c cc nL own ret D tys A) {i : Nat} {x : Nat} {lv2 : List (Nat × Value)} (hn : i < nL) (hl2 : (i, Value.ref x) :: lv.filter (fun q => !(q.1 == i) && !(q.1 + 1 == i && q.2.category == 2)) = lv2) (hd : decode cc pc = .ok (.astore i, 2)) (h : KJ p l e R s m args below meth c cells slots Q D A nL ws lv2 st (pc + 2)) : KJ p l e R s m args below meth c cells slots Q D A nL ws lv (.ref x :: st) pc := fun H locs ls hP hD hS hl => lv_astore C.1 C.2.1 hd hl hn hl2 (fun ls2 hl3 => h H locs ls2 hP hD hS hl3)
theorem k_astore_n (C : KC p s m args meth c cc nL own ret D tys A) {z : Fin 4} {i : Nat} {x : Nat} {lv2 : List (Nat × Value)} (hz : (z : Nat) = i) (hn : i < nL) (hl2 : (i, Value.ref x) :: lv.filter (fun q => !(q.1 == i) && !(q.1 + 1 == i && q.2.category == 2)) = lv2) (hd : decode cc pc = .ok (.astore_n z, 1)) (h : KJ p l e R s m args below meth c cells slots Q D A nL ws lv2 st (pc + 1)) : KJ p l e R s m args below meth c cells slots Q D A nL ws lv (.ref x :: st) pc := fun H locs ls hP hD hS hl => lv_astore_n C.1 C.2.1 hd hz hl hn hl2 (fun ls2 hl3 => h H locs ls2 hP hD hS hl3)
theorem k_lstore (C : KC p s m args meth c cc nL own ret D tys A) {i : Nat} {x : Int64} {lv2 : List (Nat × Value)} (hn : i + 1 < nL) (hl2 : (i, Value.long x) :: lv.filter (fun q => !(q.1 == i) && (!(q.1 == i + 1) && !(q.1 + 1 == i && q.2.category == 2))) = lv2) (hd : decode cc pc = .ok (.lstore i, 2)) (h : KJ p l e R s m args below meth c cells slots Q D A nL ws lv2 st (pc + 2)) : KJ p l e R s m args below meth c cells slots Q D A nL ws lv (.long x :: st) pc := fun H locs ls hP hD hS hl => lv_lstore C.1 C.2.1 hd hl hn hl2 (fun ls2 hl3 => h H locs ls2 hP hD hS hl3)
theorem k_lstore_n (C : KC p s m args meth c cc nL own ret D tys A) {z : Fin 4} {i : Nat} {x : Int64} {lv2 : List (Nat × Value)} (hz : (z : Nat) = i) (hn : i + 1 < nL) (hl2 : (i, Value.long x) :: lv.filter (fun q => !(q.1 == i) && (!(q.1 == i + 1) && !(q.1 + 1 == i && q.2.category == 2))) = lv2) (hd : decode cc pc = .ok (.lstore_n z, 1)) (h : KJ p l e R s m args below meth c cells slots Q D A nL ws lv2 st (pc + 1)) : KJ p l e R s m args below meth c cells slots Q D A nL ws lv (.long x :: st) pc := fun H locs ls hP hD hS hl => lv_lstore_n C.1 C.2.1 hd hz hl hn hl2 (fun ls2 hl3 => h H locs ls2 hP hD hS hl3)
theorem k_dstore (C : KC p s m args meth c cc nL own ret D tys A) {i : Nat} {x : UInt64} {lv2 : List (Nat × Value)} (hn : i + 1 < nL) (hl2 : (i, Value.double x) :: lv.filter (fun q => !(q.1 == i) && (!(q.1 == i + 1) && !(q.1 + 1 == i && q.2.category == 2))) = lv2) (hd : decode cc pc = .ok (.dstore i, 2)) (h : KJ p l e R s m args below meth c cells slots Q D A nL ws lv2 st (pc + 2)) : KJ p l e R s m args below meth c cells slots Q D A nL ws lv (.double x :: st) pc := fun H locs ls hP hD hS hl => lv_dstore C.1 C.2.1 hd hl hn hl2 (fun ls2 hl3 => h H locs ls2 hP hD hS hl3)
theorem k_iinc (C : KC p s m args meth c cc nL own ret D tys A) {i : Nat} {n : Int} {x v : Int32} {lv2 : List (Nat × Value)} (k : Nat) (hk : lv[k]? = some (i, .int x)) (hv : x + Int32.ofInt n = v) (hn : i < nL) (hl2 : (i, Value.int v) :: lv.filter (fun q => !(q.1 == i) && !(q.1 + 1 == i && q.2.category == 2)) = lv2) (hd : decode cc pc = .ok (.iinc i n, 3)) (h : KJ p l e R s m args below meth c cells slots Q D A nL ws lv2 st (pc + 3)) : KJ p l e R s m args below meth c cells slots Q D A nL ws lv st pc := fun H locs ls hP hD hS hl => lv_iinc C.1 C.2.1 hd hl (k := k) hk hv hn hl2 (fun ls2 hl3 => h H locs ls2 hP hD hS hl3)
theorem k_iadd (C : KC p s m args meth c cc nL own ret D tys A) {x y : Int32} (hd : decode cc pc = .ok (.iadd, 1)) (h : KJ p l e R s m args below meth c cells slots Q D A nL ws lv (.int (x + y) :: st) (pc + 1)) : KJ p l e R s m args below meth c cells slots Q D A nL ws lv (.int y :: .int x :: st) pc := fun H locs ls hP hD hS hl => lv_iadd C.1 C.2.1 hd (h H locs ls hP hD hS hl)
theorem k_isub (C : KC p s m args meth c cc nL own ret D tys A) {x y : Int32} (hd : decode cc pc = .ok (.isub, 1)) (h : KJ p l e R s m args below meth c cells slots Q D A nL ws lv (.int (x - y) :: st) (pc + 1)) : KJ p l e R s m args below meth c cells slots Q D A nL ws lv (.int y :: .int x :: st) pc := fun H locs ls hP hD hS hl => lv_isub C.1 C.2.1 hd (h H locs ls hP hD hS hl)
theorem k_imul (C : KC p s m args meth c cc nL own ret D tys A) {x y : Int32} (hd : decode cc pc = .ok (.imul, 1)) (h : KJ p l e R s m args below meth c cells slots Q D A nL ws lv (.int (x * y) :: st) (pc + 1)) : KJ p l e R s m args below meth c cells slots Q D A nL ws lv (.int y :: .int x :: st) pc := fun H locs ls hP hD hS hl => lv_imul C.1 C.2.1 hd (h H locs ls hP hD hS hl)
theorem k_iand (C : KC p s m args meth c cc nL own ret D tys A) {x y : Int32} (hd : decode cc pc = .ok (.iand, 1)) (h : KJ p l e R s m args below meth c cells slots Q D A nL ws lv (.int (x &&& y) :: st) (pc + 1)) : KJ p l e R s m args below meth c cells slots Q D A nL ws lv (.int y :: .int x :: st) pc := fun H locs ls hP hD hS hl => lv_iand C.1 C.2.1 hd (h H locs ls hP hD hS hl)
theorem k_ladd (C : KC p s m args meth c cc nL own ret D tys A) {x y : Int64} (hd : decode cc pc = .ok (.ladd, 1)) (h : KJ p l e R s m args below meth c cells slots Q D A nL ws lv (.long (x + y) :: st) (pc + 1)) : KJ p l e R s m args below meth c cells slots Q D A nL ws lv (.long y :: .long x :: st) pc := fun H locs ls hP hD hS hl => lv_ladd C.1 C.2.1 hd (h H locs ls hP hD hS hl)
theorem k_lsub (C : KC p s m args meth c cc nL own ret D tys A) {x y : Int64} (hd : decode cc pc = .ok (.lsub, 1)) (h : KJ p l e R s m args below meth c cells slots Q D A nL ws lv (.long (x - y) :: st) (pc + 1)) : KJ p l e R s m args below meth c cells slots Q D A nL ws lv (.long y :: .long x :: st) pc := fun H locs ls hP hD hS hl => lv_lsub C.1 C.2.1 hd (h H locs ls hP hD hS hl)
theorem k_lmul (C : KC p s m args meth c cc nL own ret D tys A) {x y : Int64} (hd : decode cc pc = .ok (.lmul, 1)) (h : KJ p l e R s m args below meth c cells slots Q D A nL ws lv (.long (x * y) :: st) (pc + 1)) : KJ p l e R s m args below meth c cells slots Q D A nL ws lv (.long y :: .long x :: st) pc := fun H locs ls hP hD hS hl => lv_lmul C.1 C.2.1 hd (h H locs ls hP hD hS hl)
theorem k_idiv (C : KC p s m args meth c cc nL own ret D tys A) {x y : Int32} (hne : ¬ y = 0) (hd : decode cc pc = .ok (.idiv, 1)) (h : KJ p l e R s m args below meth c cells slots Q D A nL ws lv (.int (x / y) :: st) (pc + 1)) : KJ p l e R s m args below meth c cells slots Q D A nL ws lv (.int y :: .int x :: st) pc := fun H locs ls hP hD hS hl => lv_idiv C.1 C.2.1 hd hne (h H locs ls hP hD hS hl)
theorem k_ldiv (C : KC p s m args meth c cc nL own ret D tys A) {x y : Int64} (hne : ¬ y = 0) (hd : decode cc pc = .ok (.ldiv, 1)) (h : KJ p l e R s m args below meth c cells slots Q D A nL ws lv (.long (x / y) :: st) (pc + 1)) : KJ p l e R s m args below meth c cells slots Q D A nL ws lv (.long y :: .long x :: st) pc := fun H locs ls hP hD hS hl => lv_ldiv C.1 C.2.1 hd hne (h H locs ls hP hD hS hl)
theorem k_ineg (C : KC p s m args meth c cc nL own ret D tys A) {x : Int32} (hd : decode cc pc = .ok (.ineg, 1)) (h : KJ p l e R s m args below meth c cells slots Q D A nL ws lv (.int (-x) :: st) (pc + 1)) : KJ p l e R s m args below meth c cells slots Q D A nL ws lv (.int x :: st) pc := fun H locs ls hP hD hS hl => lv_ineg C.1 C.2.1 hd (h H locs ls hP hD hS hl)
theorem k_lneg (C : KC p s m args meth c cc nL own ret D tys A) {x : Int64} (hd : decode cc pc = .ok (.lneg, 1)) (h : KJ p l e R s m args below meth c cells slots Q D A nL ws lv (.long (-x) :: st) (pc + 1)) : KJ p l e R s m args below meth c cells slots Q D A nL ws lv (.long x :: st) pc := fun H locs ls hP hD hS hl => lv_lneg C.1 C.2.1 hd (h H locs ls hP hD hS hl)
theorem k_i2l (C : KC p s m args meth c cc nL own ret D tys A) {x : Int32} (hd : decode cc pc = .ok (.i2l, 1)) (h : KJ p l e R s m args below meth c cells slots Q D A nL ws lv (.long x.toInt64 :: st) (pc + 1)) : KJ p l e R s m args below meth c cells slots Q D A nL ws lv (.int x :: st) pc := fun H locs ls hP hD hS hl => lv_i2l C.1 C.2.1 hd rfl (h H locs ls hP hD hS hl)
theorem k_l2i (C : KC p s m args meth c cc nL own ret D tys A) {x : Int64} (hd : decode cc pc = .ok (.l2i, 1)) (h : KJ p l e R s m args below meth c cells slots Q D A nL ws lv (.int x.toInt32 :: st) (pc + 1)) : KJ p l e R s m args below meth c cells slots Q D A nL ws lv (.long x :: st) pc := fun H locs ls hP hD hS hl => lv_l2i C.1 C.2.1 hd rfl (h H locs ls hP hD hS hl)
theorem k_dup (C : KC p s m args meth c cc nL own ret D tys A) {va : Value} (hva : va.category = 1) (hd : decode cc pc = .ok (.dup, 1)) (h : KJ p l e R s m args below meth c cells slots Q D A nL ws lv (va :: va :: st) (pc + 1)) : KJ p l e R s m args below meth c cells slots Q D A nL ws lv (va :: st) pc := fun H locs ls hP hD hS hl => lv_dup C.1 C.2.1 hd hva (h H locs ls hP hD hS hl)
theorem k_goto (C : KC p s m args meth c cc nL own ret D tys A) {off : Int} {tgt : Nat} (ht : (pc : Int) + off = (tgt : Int)) (hd : decode cc pc = .ok (.goto off, 3)) (h : KJ p l e R s m args below meth c cells slots Q D A nL ws lv st tgt) : KJ p l e R s m args below meth c cells slots Q D A nL ws lv st pc := fun H locs ls hP hD hS hl => lv_goto C.1 C.2.1 hd ht (h H locs ls hP hD hS hl)
theorem k_if_eq (C : KC p s m args meth c cc nL own ret D tys A) {x : Int32} {off : Int} {tgt : Nat} (hd : decode cc pc = .ok (.ifCond .eq off, 3)) (ht : (pc : Int) + off = (tgt : Int)) (kt : x = 0 → KJ p l e R s m args below meth c cells slots Q D A nL ws lv st tgt) (kf : ¬ x = 0 → KJ p l e R s m args below meth c cells slots Q D A nL ws lv st (pc + 3)) : KJ p l e R s m args below meth c cells slots Q D A nL ws lv (.int x :: st) pc := fun H locs ls hP hD hS hl => lv_if_eq C.1 C.2.1 hd ht (fun z => kt z H locs ls hP hD hS hl) (fun z => kf z H locs ls hP hD hS hl)
theorem k_icmp_eq (C : KC p s m args meth c cc nL own ret D tys A) {x y : Int32} {off : Int} {tgt : Nat} (hd : decode cc pc = .ok (.if_icmp .eq off, 3)) (ht : (pc : Int) + off = (tgt : Int)) (kt : x = y → KJ p l e R s m args below meth c cells slots Q D A nL ws lv st tgt) (kf : ¬ x = y → KJ p l e R s m args below meth c cells slots Q D A nL ws lv st (pc + 3)) : KJ p l e R s m args below meth c cells slots Q D A nL ws lv (.int y :: .int x :: st) pc := fun H locs ls hP hD hS hl => lv_icmp_eq C.1 C.2.1 hd ht (fun z => kt z H locs ls hP hD hS hl) (fun z => kf z H locs ls hP hD hS hl)
theorem k_if_ne (C : KC p s m args meth c cc nL own ret D tys A) {x : Int32} {off : Int} {tgt : Nat} (hd : decode cc pc = .ok (.ifCond .ne off, 3)) (ht : (pc : Int) + off = (tgt : Int)) (kt : ¬ x = 0 → KJ p l e R s m args below meth c cells slots Q D A nL ws lv st tgt) (kf : x = 0 → KJ p l e R s m args below meth c cells slots Q D A nL ws lv st (pc + 3)) : KJ p l e R s m args below meth c cells slots Q D A nL ws lv (.int x :: st) pc := fun H locs ls hP hD hS hl => lv_if_ne C.1 C.2.1 hd ht (fun z => kt z H locs ls hP hD hS hl) (fun z => kf z H locs ls hP hD hS hl)
theorem k_icmp_ne (C : KC p s m args meth c cc nL own ret D tys A) {x y : Int32} {off : Int} {tgt : Nat} (hd : decode cc pc = .ok (.if_icmp .ne off, 3)) (ht : (pc : Int) + off = (tgt : Int)) (kt : ¬ x = y → KJ p l e R s m args below meth c cells slots Q D A nL ws lv st tgt) (kf : x = y → KJ p l e R s m args below meth c cells slots Q D A nL ws lv st (pc + 3)) : KJ p l e R s m args below meth c cells slots Q D A nL ws lv (.int y :: .int x :: st) pc := fun H locs ls hP hD hS hl => lv_icmp_ne C.1 C.2.1 hd ht (fun z => kt z H locs ls hP hD hS hl) (fun z => kf z H locs ls hP hD hS hl)
theorem k_if_lt (C : KC p s m args meth c cc nL own ret D tys A) {x : Int32} {off : Int} {tgt : Nat} (hd : decode cc pc = .ok (.ifCond .lt off, 3)) (ht : (pc : Int) + off = (tgt : Int)) (kt : x < 0 → KJ p l e R s m args below meth c cells slots Q D A nL ws lv st tgt) (kf : ¬ x < 0 → KJ p l e R s m args below meth c cells slots Q D A nL ws lv st (pc + 3)) : KJ p l e R s m args below meth c cells slots Q D A nL ws lv (.int x :: st) pc := fun H locs ls hP hD hS hl => lv_if_lt C.1 C.2.1 hd ht (fun z => kt z H locs ls hP hD hS hl) (fun z => kf z H locs ls hP hD hS hl)
theorem k_icmp_lt (C : KC p s m args meth c cc nL own ret D tys A) {x y : Int32} {off : Int} {tgt : Nat} (hd : decode cc pc = .ok (.if_icmp .lt off, 3)) (ht : (pc : Int) + off = (tgt : Int)) (kt : x < y → KJ p l e R s m args below meth c cells slots Q D A nL ws lv st tgt) (kf : ¬ x < y → KJ p l e R s m args below meth c cells slots Q D A nL ws lv st (pc + 3)) : KJ p l e R s m args below meth c cells slots Q D A nL ws lv (.int y :: .int x :: st) pc := fun H locs ls hP hD hS hl => lv_icmp_lt C.1 C.2.1 hd ht (fun z => kt z H locs ls hP hD hS hl) (fun z => kf z H locs ls hP hD hS hl)
theorem k_if_ge (C : KC p s m args meth c cc nL own ret D tys A) {x : Int32} {off : Int} {tgt : Nat} (hd : decode cc pc = .ok (.ifCond .ge off, 3)) (ht : (pc : Int) + off = (tgt : Int)) (kt : 0 ≤ x → KJ p l e R s m args below meth c cells slots Q D A nL ws lv st tgt) (kf : ¬ 0 ≤ x → KJ p l e R s m args below meth c cells slots Q D A nL ws lv st (pc + 3)) : KJ p l e R s m args below meth c cells slots Q D A nL ws lv (.int x :: st) pc := fun H locs ls hP hD hS hl => lv_if_ge C.1 C.2.1 hd ht (fun z => kt z H locs ls hP hD hS hl) (fun z => kf z H locs ls hP hD hS hl)
theorem k_icmp_ge (C : KC p s m args meth c cc nL own ret D tys A) {x y : Int32} {off : Int} {tgt : Nat} (hd : decode cc pc = .ok (.if_icmp .ge off, 3)) (ht : (pc : Int) + off = (tgt : Int)) (kt : y ≤ x → KJ p l e R s m args below meth c cells slots Q D A nL ws lv st tgt) (kf : ¬ y ≤ x → KJ p l e R s m args below meth c cells slots Q D A nL ws lv st (pc + 3)) : KJ p l e R s m args below meth c cells slots Q D A nL ws lv (.int y :: .int x :: st) pc := fun H locs ls hP hD hS hl => lv_icmp_ge C.1 C.2.1 hd ht (fun z => kt z H locs ls hP hD hS hl) (fun z => kf z H locs ls hP hD hS hl)
theorem k_if_gt (C : KC p s m args meth c cc nL own ret D tys A) {x : Int32} {off : Int} {tgt : Nat} (hd : decode cc pc = .ok (.ifCond .gt off, 3)) (ht : (pc : Int) + off = (tgt : Int)) (kt : 0 < x → KJ p l e R s m args below meth c cells slots Q D A nL ws lv st tgt) (kf : ¬ 0 < x → KJ p l e R s m args below meth c cells slots Q D A nL ws lv st (pc + 3)) : KJ p l e R s m args below meth c cells slots Q D A nL ws lv (.int x :: st) pc := fun H locs ls hP hD hS hl => lv_if_gt C.1 C.2.1 hd ht (fun z => kt z H locs ls hP hD hS hl) (fun z => kf z H locs ls hP hD hS hl)
theorem k_icmp_gt (C : KC p s m args meth c cc nL own ret D tys A) {x y : Int32} {off : Int} {tgt : Nat} (hd : decode cc pc = .ok (.if_icmp .gt off, 3)) (ht : (pc : Int) + off = (tgt : Int)) (kt : y < x → KJ p l e R s m args below meth c cells slots Q D A nL ws lv st tgt) (kf : ¬ y < x → KJ p l e R s m args below meth c cells slots Q D A nL ws lv st (pc + 3)) : KJ p l e R s m args below meth c cells slots Q D A nL ws lv (.int y :: .int x :: st) pc := fun H locs ls hP hD hS hl => lv_icmp_gt C.1 C.2.1 hd ht (fun z => kt z H locs ls hP hD hS hl) (fun z => kf z H locs ls hP hD hS hl)
theorem k_if_le (C : KC p s m args meth c cc nL own ret D tys A) {x : Int32} {off : Int} {tgt : Nat} (hd : decode cc pc = .ok (.ifCond .le off, 3)) (ht : (pc : Int) + off = (tgt : Int)) (kt : x ≤ 0 → KJ p l e R s m args below meth c cells slots Q D A nL ws lv st tgt) (kf : ¬ x ≤ 0 → KJ p l e R s m args below meth c cells slots Q D A nL ws lv st (pc + 3)) : KJ p l e R s m args below meth c cells slots Q D A nL ws lv (.int x :: st) pc := fun H locs ls hP hD hS hl => lv_if_le C.1 C.2.1 hd ht (fun z => kt z H locs ls hP hD hS hl) (fun z => kf z H locs ls hP hD hS hl)
theorem k_icmp_le (C : KC p s m args meth c cc nL own ret D tys A) {x y : Int32} {off : Int} {tgt : Nat} (hd : decode cc pc = .ok (.if_icmp .le off, 3)) (ht : (pc : Int) + off = (tgt : Int)) (kt : x ≤ y → KJ p l e R s m args below meth c cells slots Q D A nL ws lv st tgt) (kf : ¬ x ≤ y → KJ p l e R s m args below meth c cells slots Q D A nL ws lv st (pc + 3)) : KJ p l e R s m args below meth c cells slots Q D A nL ws lv (.int y :: .int x :: st) pc := fun H locs ls hP hD hS hl => lv_icmp_le C.1 C.2.1 hd ht (fun z => kt z H locs ls hP hD hS hl) (fun z => kf z H locs ls hP hD hS hl)

theorem k_name {α : Type} {P : α → Prop} (x : α) (h : ∀ y, y = x → P y) : P x := h x rfl
theorem k_get (C : KC p s m args meth c cc nL own ret D tys A) {ci N : Nat} {Cn : String} {T : u_T} {ty0 : Nat → FieldType} (X : kCls ci Cn T N ty0) {index : Nat} {a : Nat} {fs : List Value} {v : Value} (k : Nat) (hk : k < N) (hq : Cond.fieldLink own index (T k).1 (T k).2.1 (T k).2.2.1 ∈ lw_all) (q0 : Nat) (he : ws[q0]? = some (a, .inr (ci, fs))) (hv : fs[k]? = some v) (hd : decode cc pc = .ok (.getfield index, 3)) (h : KJ p l e R s m args below meth c cells slots Q D A nL ws lv (v :: st) (pc + 3)) : KJ p l e R s m args below meth c cells slots Q D A nL ws lv (.ref a :: st) pc := by
  intro H locs ls hP hD hS hl
  obtain ⟨hx, hb, hml, hown, hts, hK, hA, hr, hlk, hN⟩ := C
  exact va_get (D := D) hx hb hts X.2.1 hown hK hP q0 he X.1 k hk (hts _ hq) (fun _ h9 => h9) hv hd (h H locs ls hP hD hS hl)
theorem k_put (C : KC p s m args meth c cc nL own ret D tys A) {ci N : Nat} {Cn : String} {T : u_T} {ty0 : Nat → FieldType} (X : kCls ci Cn T N ty0) {index : Nat} {a : Nat} {fs : List Value} {v : Value} {ws2 : va_W} (k : Nat) (hk : k < N) (hfin : (T k).2.2.2 = false) (hq : Cond.fieldLink own index (T k).1 (T k).2.1 (T k).2.2.1 ∈ lw_all) (hn : narrow (ty0 k) v = v) (hfit : fits (ty0 k) v = true) (q0 : Nat) (he : ws[q0]? = some (a, .inr (ci, fs))) (hl0 : k < fs.length) (hw : ws.set q0 (a, .inr (ci, fs.set k v)) = ws2) (hd : decode cc pc = .ok (.putfield index, 3)) (h : KJ p l e R s m args below meth c cells slots Q D A nL ws2 lv st (pc + 3)) : KJ p l e R s m args below meth c cells slots Q D A nL ws lv (v :: .ref a :: st) pc := by
  intro H locs ls hP hD hS hl
  obtain ⟨hx, hb, hml, hown, hts, hK, hA, hr, hlk, hN⟩ := C
  subst hw
  exact va_put (D := D) hx hb hts X.2.1 ty0 X.2.2.1 X.2.2.2 hown hK hP hD hS q0 he X.1 k hk (hts _ hq) (fun _ h9 => h9) hfin (X.2.2.1 k hk) hn hfit hl0 hd (fun H1 locs1 hP1 hD1 hS1 => h H1 locs1 ls hP1 hD1 hS1 hl)
theorem k_iald (C : KC p s m args meth c cc nL own ret D tys A) {cA : ClassId} {n a : Nat} {f : Nat → Int32} {i : Int32} (q0 t0 : Nat) (ha : ws[q0]? = some (a, .inl (cA, n, .inl f))) (ht : tys[t0]? = some (cA, .int)) (hin : vp_in i n) (hd : decode cc pc = .ok (.iaload, 1)) (h : KJ p l e R s m args below meth c cells slots Q D A nL ws lv (.int (f i.toNatClampNeg) :: st) (pc + 1)) : KJ p l e R s m args below meth c cells slots Q D A nL ws lv (.int i :: .ref a :: st) pc := fun H locs ls hP hD hS hl => va_iald C.1 C.2.1 C.2.2.2.2.2.1 hP q0 t0 ha ht hin hd (h H locs ls hP hD hS hl)
theorem k_lald (C : KC p s m args meth c cc nL own ret D tys A) {cA : ClassId} {n a : Nat} {f : Nat → Int64} {i : Int32} (q0 t0 : Nat) (ha : ws[q0]? = some (a, .inl (cA, n, .inr (.inl f)))) (ht : tys[t0]? = some (cA, .long)) (hin : vp_in i n) (hd : decode cc pc = .ok (.laload, 1)) (h : KJ p l e R s m args below meth c cells slots Q D A nL ws lv (.long (f i.toNatClampNeg) :: st) (pc + 1)) : KJ p l e R s m args below meth c cells slots Q D A nL ws lv (.int i :: .ref a :: st) pc := fun H locs ls hP hD hS hl => va_lald C.1 C.2.1 C.2.2.2.2.2.1 hP q0 t0 ha ht hin hd (h H locs ls hP hD hS hl)
theorem k_alen (C : KC p s m args meth c cc nL own ret D tys A) {cA : ClassId} {x : vp_A} {a : Nat} {ty : FieldType} {v : Int32} (q0 t0 : Nat) (ha : ws[q0]? = some (a, .inl (cA, x))) (ht : tys[t0]? = some (cA, ty)) (hv : Int32.ofNat x.1 = v) (hd : decode cc pc = .ok (.arraylength, 1)) (h : KJ p l e R s m args below meth c cells slots Q D A nL ws lv (.int v :: st) (pc + 1)) : KJ p l e R s m args below meth c cells slots Q D A nL ws lv (.ref a :: st) pc := fun H locs ls hP hD hS hl => va_alen C.1 C.2.1 C.2.2.2.2.2.1 hP q0 t0 ha ht hv hd (h H locs ls hP hD hS hl)

theorem k_topI {x v : Int32} (hv : x = v) (h : KJ p l e R s m args below meth c cells slots Q D A nL ws lv (.int v :: st) pc) : KJ p l e R s m args below meth c cells slots Q D A nL ws lv (.int x :: st) pc := by subst hv; exact h
theorem k_topL {x v : Int64} (hv : x = v) (h : KJ p l e R s m args below meth c cells slots Q D A nL ws lv (.long v :: st) pc) : KJ p l e R s m args below meth c cells slots Q D A nL ws lv (.long x :: st) pc := by subst hv; exact h
theorem k_iast (C : KC p s m args meth c cc nL own ret D tys A) {cA : ClassId} {n a : Nat} {f : Nat → Int32} {i x : Int32} {ws2 : va_W} (q0 t0 : Nat) (ha : ws[q0]? = some (a, .inl (cA, n, .inl f))) (ht : tys[t0]? = some (cA, .int)) (hin : vp_in i n) (hw : ws.set q0 (a, .inl (cA, n, .inl (upd f i.toNatClampNeg x))) = ws2) (hd : decode cc pc = .ok (.iastore, 1)) (h : KJ p l e R s m args below meth c cells slots Q D A nL ws2 lv st (pc + 1)) : KJ p l e R s m args below meth c cells slots Q D A nL ws lv (.int x :: .int i :: .ref a :: st) pc := by
  intro H locs ls hP hD hS hl
  subst hw
  exact va_iast C.1 C.2.1 C.2.2.2.2.2.1 hP hD hS q0 t0 ha ht hin hd (fun H1 locs1 hP1 hD1 hS1 => h H1 locs1 ls hP1 hD1 hS1 hl)
theorem k_ialdK (C : KC p s m args meth c cc nL own ret D tys A) {cA : ClassId} {n a k : Nat} {f : Nat → Int32} {i v : Int32} (q0 t0 : Nat) (ha : ws[q0]? = some (a, .inl (cA, n, .inl f))) (ht : tys[t0]? = some (cA, .int)) (hin : vp_in i n) (hk : i.toNatClampNeg = k) (hv : f k = v) (hd : decode cc pc = .ok (.iaload, 1)) (h : KJ p l e R s m args below meth c cells slots Q D A nL ws lv (.int v :: st) (pc + 1)) : KJ p l e R s m args below meth c cells slots Q D A nL ws lv (.int i :: .ref a :: st) pc := k_iald C q0 t0 ha ht hin hd (by rw [hk, hv]; exact h)
theorem k_laldK (C : KC p s m args meth c cc nL own ret D tys A) {cA : ClassId} {n a k : Nat} {f : Nat → Int64} {i : Int32} {v : Int64} (q0 t0 : Nat) (ha : ws[q0]? = some (a, .inl (cA, n, .inr (.inl f)))) (ht : tys[t0]? = some (cA, .long)) (hin : vp_in i n) (hk : i.toNatClampNeg = k) (hv : f k = v) (hd : decode cc pc = .ok (.laload, 1)) (h : KJ p l e R s m args below meth c cells slots Q D A nL ws lv (.long v :: st) (pc + 1)) : KJ p l e R s m args below meth c cells slots Q D A nL ws lv (.int i :: .ref a :: st) pc := k_lald C q0 t0 ha ht hin hd (by rw [hk, hv]; exact h)
theorem k_iastK (C : KC p s m args meth c cc nL own ret D tys A) {cA : ClassId} {n a k : Nat} {f : Nat → Int32} {i x : Int32} {ws2 : va_W} (q0 t0 : Nat) (ha : ws[q0]? = some (a, .inl (cA, n, .inl f))) (ht : tys[t0]? = some (cA, .int)) (hin : vp_in i n) (hk : i.toNatClampNeg = k) (hw : ws.set q0 (a, .inl (cA, n, .inl (upd f k x))) = ws2) (hd : decode cc pc = .ok (.iastore, 1)) (h : KJ p l e R s m args below meth c cells slots Q D A nL ws2 lv st (pc + 1)) : KJ p l e R s m args below meth c cells slots Q D A nL ws lv (.int x :: .int i :: .ref a :: st) pc := k_iast C q0 t0 ha ht hin (by rw [hk]; exact hw) hd h
theorem k_lpick {lv2 : List (Nat × Value)} (ks : List Nat) (hl2 : lv_pick lv ks = lv2) (h : KJ p l e R s m args below meth c cells slots Q D A nL ws lv2 st pc) : KJ p l e R s m args below meth c cells slots Q D A nL ws lv st pc := fun H locs ls hP hD hS hl => h H locs ls hP hD hS (lv_sub hl ks hl2)
theorem k_last (C : KC p s m args meth c cc nL own ret D tys A) {cA : ClassId} {n a : Nat} {f : Nat → Int64} {i : Int32} {x : Int64} {ws2 : va_W} (q0 t0 : Nat) (ha : ws[q0]? = some (a, .inl (cA, n, .inr (.inl f)))) (ht : tys[t0]? = some (cA, .long)) (hin : vp_in i n) (hw : ws.set q0 (a, .inl (cA, n, .inr (.inl (vp_updL f i.toNatClampNeg x)))) = ws2) (hd : decode cc pc = .ok (.lastore, 1)) (h : KJ p l e R s m args below meth c cells slots Q D A nL ws2 lv st (pc + 1)) : KJ p l e R s m args below meth c cells slots Q D A nL ws lv (.long x :: .int i :: .ref a :: st) pc := by
  intro H locs ls hP hD hS hl
  subst hw
  exact va_last C.1 C.2.1 C.2.2.2.2.2.1 hP hD hS q0 t0 ha ht hin hd (fun H1 locs1 hP1 hD1 hS1 => h H1 locs1 ls hP1 hD1 hS1 hl)
theorem k_lastK (C : KC p s m args meth c cc nL own ret D tys A) {cA : ClassId} {n a k : Nat} {f : Nat → Int64} {i : Int32} {x : Int64} {ws2 : va_W} (q0 t0 : Nat) (ha : ws[q0]? = some (a, .inl (cA, n, .inr (.inl f)))) (ht : tys[t0]? = some (cA, .long)) (hin : vp_in i n) (hk : i.toNatClampNeg = k) (hw : ws.set q0 (a, .inl (cA, n, .inr (.inl (vp_updL f k x)))) = ws2) (hd : decode cc pc = .ok (.lastore, 1)) (h : KJ p l e R s m args below meth c cells slots Q D A nL ws2 lv st (pc + 1)) : KJ p l e R s m args below meth c cells slots Q D A nL ws lv (.long x :: .int i :: .ref a :: st) pc := k_last C q0 t0 ha ht hin (by rw [hk]; exact hw) hd h
theorem k_ldc2 (C : KC p s m args meth c cc nL own ret D tys A) {index : Nat} {v : Int64} (hq : Cond.constantLong own index v ∈ lw_all) (hd : decode cc pc = .ok (.ldc2_w index, 3)) (h : KJ p l e R s m args below meth c cells slots Q D A nL ws lv (.long v :: st) (pc + 3)) : KJ p l e R s m args below meth c cells slots Q D A nL ws lv st pc := fun H locs ls hP hD hS hl => lv_ldc2 C.1 C.2.1 C.2.2.2.1 (C.2.2.2.2.1 _ hq) hd (h H locs ls hP hD hS hl)
theorem k_dup2 (C : KC p s m args meth c cc nL own ret D tys A) {va vb : Value} (hva : va.category = 1) (hvb : vb.category = 1) (hd : decode cc pc = .ok (.dup2, 1)) (h : KJ p l e R s m args below meth c cells slots Q D A nL ws lv (va :: vb :: va :: vb :: st) (pc + 1)) : KJ p l e R s m args below meth c cells slots Q D A nL ws lv (va :: vb :: st) pc := fun H locs ls hP hD hS hl => lv_dup2_11 C.1 C.2.1 hd hva hvb (h H locs ls hP hD hS hl)
theorem lgc_lt (x y : Int64) : lg_cmp x y < 0 ↔ x < y := by
  unfold lg_cmp
  by_cases h1 : y < x
  · rw [if_pos h1]
    constructor
    · intro h; exact absurd h (by decide)
    · intro h; exact absurd (Int64.lt_iff_toInt_lt.mp h) (by have := Int64.lt_iff_toInt_lt.mp h1; omega)
  · rw [if_neg h1]
    by_cases h2 : x = y
    · rw [if_pos h2]
      constructor
      · intro h; exact absurd h (by decide)
      · intro h; exact absurd (Int64.lt_iff_toInt_lt.mp h) (by rw [h2]; omega)
    · rw [if_neg h2]
      refine ⟨fun _ => ?_, fun _ => by decide⟩
      have a1 : ¬ y.toInt < x.toInt := fun z => h1 (Int64.lt_iff_toInt_lt.mpr z)
      have a2 : ¬ x.toInt = y.toInt := fun z => h2 (Int64.toInt_inj.mp z)
      exact Int64.lt_iff_toInt_lt.mpr (by omega)
theorem lgc_gt (x y : Int64) : 0 < lg_cmp x y ↔ y < x := by
  unfold lg_cmp
  by_cases h1 : y < x
  · rw [if_pos h1]
    exact ⟨fun _ => h1, fun _ => by decide⟩
  · rw [if_neg h1]
    by_cases h2 : x = y
    · rw [if_pos h2]
      exact ⟨fun h => absurd h (by decide), fun h => absurd h h1⟩
    · rw [if_neg h2]
      exact ⟨fun h => absurd h (by decide), fun h => absurd h h1⟩
theorem lgc_eq (x y : Int64) : lg_cmp x y = 0 ↔ x = y := by
  unfold lg_cmp
  by_cases h1 : y < x
  · rw [if_pos h1]
    refine ⟨fun h => absurd h (by decide), fun h => ?_⟩
    rw [h] at h1
    exact absurd (Int64.lt_iff_toInt_lt.mp h1) (by omega)
  · rw [if_neg h1]
    by_cases h2 : x = y
    · rw [if_pos h2]
      exact ⟨fun _ => h2, fun _ => rfl⟩
    · rw [if_neg h2]
      exact ⟨fun h => absurd h (by decide), fun h => absurd h h2⟩
theorem lgc_le (x y : Int64) : lg_cmp x y ≤ 0 ↔ x ≤ y := by
  have h := lgc_gt x y
  constructor
  · intro h1
    have h2 : ¬ y < x := fun z => absurd (Int32.lt_iff_toInt_lt.mp (h.mpr z)) (by have := Int32.le_iff_toInt_le.mp h1; omega)
    exact Int64.le_iff_toInt_le.mpr (by have : ¬ y.toInt < x.toInt := fun z => h2 (Int64.lt_iff_toInt_lt.mpr z); omega)
  · intro h1
    refine Int32.le_iff_toInt_le.mpr ?_
    have h2 : ¬ (0 : Int32).toInt < (lg_cmp x y).toInt := fun z => absurd (Int64.lt_iff_toInt_lt.mp (h.mp (Int32.lt_iff_toInt_lt.mpr z))) (by have := Int64.le_iff_toInt_le.mp h1; omega)
    omega
theorem lgc_ge (x y : Int64) : 0 ≤ lg_cmp x y ↔ y ≤ x := by
  have h := lgc_lt x y
  constructor
  · intro h1
    have h2 : ¬ x < y := fun z => absurd (Int32.lt_iff_toInt_lt.mp (h.mpr z)) (by have := Int32.le_iff_toInt_le.mp h1; omega)
    exact Int64.le_iff_toInt_le.mpr (by have : ¬ x.toInt < y.toInt := fun z => h2 (Int64.lt_iff_toInt_lt.mpr z); omega)
  · intro h1
    refine Int32.le_iff_toInt_le.mpr ?_
    have h2 : ¬ (lg_cmp x y).toInt < (0 : Int32).toInt := fun z => absurd (Int64.lt_iff_toInt_lt.mp (h.mp (Int32.lt_iff_toInt_lt.mpr z))) (by have := Int64.le_iff_toInt_le.mp h1; omega)
    omega
theorem k_lcmp_eq (C : KC p s m args meth c cc nL own ret D tys A) {x y : Int64} {off : Int} {tgt : Nat} (hd0 : decode cc pc = .ok (.lcmp, 1)) (hd : decode cc (pc + 1) = .ok (.ifCond .eq off, 3)) (ht : ((pc + 1 : Nat) : Int) + off = (tgt : Int)) (kt : x = y → KJ p l e R s m args below meth c cells slots Q D A nL ws lv st tgt) (kf : ¬ x = y → KJ p l e R s m args below meth c cells slots Q D A nL ws lv st (pc + 4)) : KJ p l e R s m args below meth c cells slots Q D A nL ws lv (.long y :: .long x :: st) pc := fun H locs ls hP hD hS hl => W.lcmp C.1 C.2.1 hd0 (lv_if_eq C.1 C.2.1 hd ht (fun z => kt ((lgc_eq x y).mp z) H locs ls hP hD hS hl) (fun z => kf (fun w => z ((lgc_eq x y).mpr w)) H locs ls hP hD hS hl))
theorem k_lcmp_ne (C : KC p s m args meth c cc nL own ret D tys A) {x y : Int64} {off : Int} {tgt : Nat} (hd0 : decode cc pc = .ok (.lcmp, 1)) (hd : decode cc (pc + 1) = .ok (.ifCond .ne off, 3)) (ht : ((pc + 1 : Nat) : Int) + off = (tgt : Int)) (kt : ¬ x = y → KJ p l e R s m args below meth c cells slots Q D A nL ws lv st tgt) (kf : x = y → KJ p l e R s m args below meth c cells slots Q D A nL ws lv st (pc + 4)) : KJ p l e R s m args below meth c cells slots Q D A nL ws lv (.long y :: .long x :: st) pc := fun H locs ls hP hD hS hl => W.lcmp C.1 C.2.1 hd0 (lv_if_ne C.1 C.2.1 hd ht (fun z => kt (fun w => z ((lgc_eq x y).mpr w)) H locs ls hP hD hS hl) (fun z => kf ((lgc_eq x y).mp z) H locs ls hP hD hS hl))
theorem k_lcmp_lt (C : KC p s m args meth c cc nL own ret D tys A) {x y : Int64} {off : Int} {tgt : Nat} (hd0 : decode cc pc = .ok (.lcmp, 1)) (hd : decode cc (pc + 1) = .ok (.ifCond .lt off, 3)) (ht : ((pc + 1 : Nat) : Int) + off = (tgt : Int)) (kt : x < y → KJ p l e R s m args below meth c cells slots Q D A nL ws lv st tgt) (kf : ¬ x < y → KJ p l e R s m args below meth c cells slots Q D A nL ws lv st (pc + 4)) : KJ p l e R s m args below meth c cells slots Q D A nL ws lv (.long y :: .long x :: st) pc := fun H locs ls hP hD hS hl => W.lcmp C.1 C.2.1 hd0 (lv_if_lt C.1 C.2.1 hd ht (fun z => kt ((lgc_lt x y).mp z) H locs ls hP hD hS hl) (fun z => kf (fun w => z ((lgc_lt x y).mpr w)) H locs ls hP hD hS hl))
theorem k_lcmp_ge (C : KC p s m args meth c cc nL own ret D tys A) {x y : Int64} {off : Int} {tgt : Nat} (hd0 : decode cc pc = .ok (.lcmp, 1)) (hd : decode cc (pc + 1) = .ok (.ifCond .ge off, 3)) (ht : ((pc + 1 : Nat) : Int) + off = (tgt : Int)) (kt : y ≤ x → KJ p l e R s m args below meth c cells slots Q D A nL ws lv st tgt) (kf : ¬ y ≤ x → KJ p l e R s m args below meth c cells slots Q D A nL ws lv st (pc + 4)) : KJ p l e R s m args below meth c cells slots Q D A nL ws lv (.long y :: .long x :: st) pc := fun H locs ls hP hD hS hl => W.lcmp C.1 C.2.1 hd0 (lv_if_ge C.1 C.2.1 hd ht (fun z => kt ((lgc_ge x y).mp z) H locs ls hP hD hS hl) (fun z => kf (fun w => z ((lgc_ge x y).mpr w)) H locs ls hP hD hS hl))
theorem k_lcmp_gt (C : KC p s m args meth c cc nL own ret D tys A) {x y : Int64} {off : Int} {tgt : Nat} (hd0 : decode cc pc = .ok (.lcmp, 1)) (hd : decode cc (pc + 1) = .ok (.ifCond .gt off, 3)) (ht : ((pc + 1 : Nat) : Int) + off = (tgt : Int)) (kt : y < x → KJ p l e R s m args below meth c cells slots Q D A nL ws lv st tgt) (kf : ¬ y < x → KJ p l e R s m args below meth c cells slots Q D A nL ws lv st (pc + 4)) : KJ p l e R s m args below meth c cells slots Q D A nL ws lv (.long y :: .long x :: st) pc := fun H locs ls hP hD hS hl => W.lcmp C.1 C.2.1 hd0 (lv_if_gt C.1 C.2.1 hd ht (fun z => kt ((lgc_gt x y).mp z) H locs ls hP hD hS hl) (fun z => kf (fun w => z ((lgc_gt x y).mpr w)) H locs ls hP hD hS hl))
theorem k_lcmp_le (C : KC p s m args meth c cc nL own ret D tys A) {x y : Int64} {off : Int} {tgt : Nat} (hd0 : decode cc pc = .ok (.lcmp, 1)) (hd : decode cc (pc + 1) = .ok (.ifCond .le off, 3)) (ht : ((pc + 1 : Nat) : Int) + off = (tgt : Int)) (kt : x ≤ y → KJ p l e R s m args below meth c cells slots Q D A nL ws lv st tgt) (kf : ¬ x ≤ y → KJ p l e R s m args below meth c cells slots Q D A nL ws lv st (pc + 4)) : KJ p l e R s m args below meth c cells slots Q D A nL ws lv (.long y :: .long x :: st) pc := fun H locs ls hP hD hS hl => W.lcmp C.1 C.2.1 hd0 (lv_if_le C.1 C.2.1 hd ht (fun z => kt ((lgc_le x y).mp z) H locs ls hP hD hS hl) (fun z => kf (fun w => z ((lgc_le x y).mpr w)) H locs ls hP hD hS hl))
theorem k_mmax (C : KC p s m args meth c cc nL own ret D tys A) {x y : Int32} {index : Nat} (hq : Cond.methodLink own index Lib.Math.max.name ∈ lw_all) (hs1 : Cond.static Lib.Math.max.name ∈ lw_all) (hi : Cond.initialized "java/lang/Math" ∈ lw_all) (hc : Cond.code Lib.Math.max.name Lib.Math.max.code 2 (some .int) ∈ lw_all) (hR : 1 ≤ R.frames ∧ (st.map fun v => v.category).sum + 13 ≤ R.locals ∧ cells ≤ R.cells ∧ slots ≤ R.slots) (hd : decode cc pc = .ok (.invokestatic index, 3)) (h : KJ p l e R s m args below meth c cells slots Q D A nL ws lv (.int (if x < y then y else x) :: st) (pc + 3)) : KJ p l e R s m args below meth c cells slots Q D A nL ws lv (.int y :: .int x :: st) pc := fun H locs ls hP hD hS hl => va_mmax C.1 C.2.1 (C.2.2.1.trans hl.1.symm) C.2.2.2.1 (C.2.2.2.2.1 _ hq) (C.2.2.2.2.1 _ hs1) (C.2.2.2.2.1 _ hi) (C.2.2.2.2.1 _ hc) hR.1 hR.2.1 hR.2.2.1 hR.2.2.2 hd (h H locs ls hP hD hS hl)
theorem k_mmin (C : KC p s m args meth c cc nL own ret D tys A) {x y : Int32} {index : Nat} (hq : Cond.methodLink own index Lib.Math.min.name ∈ lw_all) (hs1 : Cond.static Lib.Math.min.name ∈ lw_all) (hi : Cond.initialized "java/lang/Math" ∈ lw_all) (hc : Cond.code Lib.Math.min.name Lib.Math.min.code 2 (some .int) ∈ lw_all) (hR : 1 ≤ R.frames ∧ (st.map fun v => v.category).sum + 13 ≤ R.locals ∧ cells ≤ R.cells ∧ slots ≤ R.slots) (hd : decode cc pc = .ok (.invokestatic index, 3)) (h : KJ p l e R s m args below meth c cells slots Q D A nL ws lv (.int (if y < x then y else x) :: st) (pc + 3)) : KJ p l e R s m args below meth c cells slots Q D A nL ws lv (.int y :: .int x :: st) pc := fun H locs ls hP hD hS hl => va_mmin C.1 C.2.1 (C.2.2.1.trans hl.1.symm) C.2.2.2.1 (C.2.2.2.2.1 _ hq) (C.2.2.2.2.1 _ hs1) (C.2.2.2.2.1 _ hi) (C.2.2.2.2.1 _ hc) hR.1 hR.2.1 hR.2.2.1 hR.2.2.2 hd (h H locs ls hP hD hS hl)
theorem k_mabs (C : KC p s m args meth c cc nL own ret D tys A) {x : Int32} {index : Nat} (hq : Cond.methodLink own index Lib.Math.abs.name ∈ lw_all) (hs1 : Cond.static Lib.Math.abs.name ∈ lw_all) (hi : Cond.initialized "java/lang/Math" ∈ lw_all) (hc : Cond.code Lib.Math.abs.name Lib.Math.abs.code 1 (some .int) ∈ lw_all) (hR : 1 ≤ R.frames ∧ (st.map fun v => v.category).sum + 13 ≤ R.locals ∧ cells ≤ R.cells ∧ slots ≤ R.slots) (hd : decode cc pc = .ok (.invokestatic index, 3)) (h : KJ p l e R s m args below meth c cells slots Q D A nL ws lv (.int (if 0 ≤ x then x else 0 - x) :: st) (pc + 3)) : KJ p l e R s m args below meth c cells slots Q D A nL ws lv (.int x :: st) pc := fun H locs ls hP hD hS hl => va_mabs C.1 C.2.1 (C.2.2.1.trans hl.1.symm) C.2.2.2.1 (C.2.2.2.2.1 _ hq) (C.2.2.2.2.1 _ hs1) (C.2.2.2.2.1 _ hi) (C.2.2.2.2.1 _ hc) hR.1 hR.2.1 hR.2.2.1 hR.2.2.2 hd (h H locs ls hP hD hS hl)

theorem k_iret {ws0 ws2 : va_W} {v r : Int32} (C : KC p s m args meth c cc nL own (some .int) D tys (va_A ws0 s.heap.size)) (hr : v = r) (hw : ws = ws2) (hd : decode cc pc = .ok (.ireturn, 1)) : KJ p l e R s m args below meth c 0 0 (MQ below (kQi D tys s.heap.size ws0 r ws2) args s 0 0 (va_A ws0 s.heap.size)) D (va_A ws0 s.heap.size) nL ws lv [.int v] pc := by
  intro H locs ls hP hD hS hl
  subst hr hw
  exact W.iret C.1 C.2.1 C.2.2.2.2.2.2.2.1 (fun t ht hW => ⟨⟨_, (), rfl, rfl, by rw [ht]; exact hP, va_K.moved hW.alike C.2.2.2.2.2.1, hD⟩, hS.F ht⟩) hS.2.2 hd C.2.2.2.2.2.2.2.2.1
theorem k_zret {ty : FieldType} {ws0 ws2 : va_W} {v r : Int32} (C : KC p s m args meth c cc nL own (some ty) D tys (va_A ws0 s.heap.size)) (hn : narrow ty (.int v) = .int v) (hr : v = r) (hw : ws = ws2) (hd : decode cc pc = .ok (.ireturn, 1)) : KJ p l e R s m args below meth c 0 0 (MQ below (kQi D tys s.heap.size ws0 r ws2) args s 0 0 (va_A ws0 s.heap.size)) D (va_A ws0 s.heap.size) nL ws lv [.int v] pc := by
  intro H locs ls hP hD hS hl
  subst hr hw
  exact W.zret C.1 C.2.1 C.2.2.2.2.2.2.2.1 hn (fun t ht hW => ⟨⟨_, (), rfl, rfl, by rw [ht]; exact hP, va_K.moved hW.alike C.2.2.2.2.2.1, hD⟩, hS.F ht⟩) hS.2.2 hd C.2.2.2.2.2.2.2.2.1
theorem k_lret {ws0 ws2 : va_W} {v r : Int64} (C : KC p s m args meth c cc nL own (some .long) D tys (va_A ws0 s.heap.size)) (hr : v = r) (hw : ws = ws2) (hd : decode cc pc = .ok (.lreturn, 1)) : KJ p l e R s m args below meth c 0 0 (MQ below (kQl D tys s.heap.size ws0 r ws2) args s 0 0 (va_A ws0 s.heap.size)) D (va_A ws0 s.heap.size) nL ws lv [.long v] pc := by
  intro H locs ls hP hD hS hl
  subst hr hw
  exact W.lret C.1 C.2.1 C.2.2.2.2.2.2.2.1 (fun t ht hW => ⟨⟨_, (), rfl, rfl, by rw [ht]; exact hP, va_K.moved hW.alike C.2.2.2.2.2.1, hD⟩, hS.F ht⟩) hS.2.2 hd C.2.2.2.2.2.2.2.2.1
theorem k_vret {ws0 ws2 : va_W} (C : KC p s m args meth c cc nL own none D tys (va_A ws0 s.heap.size)) (hw : ws = ws2) (hd : decode cc pc = .ok (.return_, 1)) : KJ p l e R s m args below meth c 0 0 (MQ below (kQv D tys s.heap.size ws0 ws2) args s 0 0 (va_A ws0 s.heap.size)) D (va_A ws0 s.heap.size) nL ws lv [] pc := by
  intro H locs ls hP hD hS hl
  subst hw
  exact W.vret C.1 C.2.1 C.2.2.2.2.2.2.2.1 (fun t ht hW => ⟨⟨(), rfl, trivial, by rw [ht]; exact hP, va_K.moved hW.alike C.2.2.2.2.2.1, hD⟩, hS.F ht⟩) hS.2.2 hd C.2.2.2.2.2.2.2.2.1
theorem kI_of {y : MethodName} {code : ByteArray} {F L : Nat} {av : List Value} {ws2 : va_W} {rt : FieldType} {r : Int32} (hown : y.cls = own) (hlv : lv_args 0 av = lv) (hy : plainName y.cls = true) (hn : (lg_sl av).length ≤ nL) (body : ∀ (p : Program) (e : Env) (s : State) (m : MethodId) (args : Array Value) (below : List Frame) (meth : Method) (c : Code) (Q : State → Prop) (A : Nat → Prop), KC p s m args meth c code nL own (some rt) D tys A → (∀ (lv2 : List (Nat × Value)) (pc : Nat), decode code pc = .ok (.ireturn, 1) → narrow rt (.int r) = .int r → KJ p l e (kR F L) s m args below meth c 0 0 Q D A nL ws2 lv2 [.int r] pc) → KJ p l e (kR F L) s m args below meth c 0 0 Q D A nL ws lv [] 0) : kI l y code nL rt F L D tys av ws r ws2 := by
  subst hown hlv
  intro sz
  refine Met.ofW (cc := code) (maxL := nL) (ret := (some rt)) hy rfl ?_
  intro p e s m args below meth c s₁ B hml hv
  obtain ⟨rfl, hsz, hP, hK, hD0, hN⟩ := hv
  subst hsz
  have hts := atoms_spec (ws := .code y code nL (some rt) :: lw_all) B.pre
  have hl := lv_entry av (n := nL) hn
  rw [lg_entry_eq]
  exact body p e s m _ below meth c _ _ ⟨B.exec, B.bytes, hml, findClass_of_methodNamed B.named, fun w h => hts w (List.mem_cons_of_mem _ h), hK, fun q h => Or.inr h, B.returns, B.notSynchronized, hN⟩ (fun lv2 pc hd hn => k_zret ⟨B.exec, B.bytes, hml, findClass_of_methodNamed B.named, fun w h => hts w (List.mem_cons_of_mem _ h), hK, fun q h => Or.inr h, B.returns, B.notSynchronized, hN⟩ hn rfl rfl hd) s.heap [] _ hP hD0.self va_S.rf hl
theorem k_finI {rt : FieldType} {v r : Int32} {ws2 : va_W} (hret : ∀ (lv2 : List (Nat × Value)) (pc : Nat), decode cc pc = .ok (.ireturn, 1) → narrow rt (.int r) = .int r → KJ p l e R s m args below meth c cells slots Q D A nL ws2 lv2 [.int r] pc) (hn : narrow rt (.int v) = .int v) (hr : v = r) (hw : ws = ws2) (hd : decode cc pc = .ok (.ireturn, 1)) : KJ p l e R s m args below meth c cells slots Q D A nL ws lv [.int v] pc := by
  subst hr hw
  exact hret _ _ hd hn
theorem kL_of {y : MethodName} {code : ByteArray} {F L : Nat} {av : List Value} {ws2 : va_W} {r : Int64} (hown : y.cls = own) (hlv : lv_args 0 av = lv) (hy : plainName y.cls = true) (hn : (lg_sl av).length ≤ nL) (body : ∀ (p : Program) (e : Env) (s : State) (m : MethodId) (args : Array Value) (below : List Frame) (meth : Method) (c : Code) (Q : State → Prop) (A : Nat → Prop), KC p s m args meth c code nL own (some .long) D tys A → (∀ (lv2 : List (Nat × Value)) (pc : Nat), decode code pc = .ok (.lreturn, 1) → KJ p l e (kR F L) s m args below meth c 0 0 Q D A nL ws2 lv2 [.long r] pc) → KJ p l e (kR F L) s m args below meth c 0 0 Q D A nL ws lv [] 0) : kL l y code nL .long F L D tys av ws r ws2 := by
  subst hown hlv
  intro sz
  refine Met.ofW (cc := code) (maxL := nL) (ret := (some .long)) hy rfl ?_
  intro p e s m args below meth c s₁ B hml hv
  obtain ⟨rfl, hsz, hP, hK, hD0, hN⟩ := hv
  subst hsz
  have hts := atoms_spec (ws := .code y code nL (some .long) :: lw_all) B.pre
  have hl := lv_entry av (n := nL) hn
  rw [lg_entry_eq]
  exact body p e s m _ below meth c _ _ ⟨B.exec, B.bytes, hml, findClass_of_methodNamed B.named, fun w h => hts w (List.mem_cons_of_mem _ h), hK, fun q h => Or.inr h, B.returns, B.notSynchronized, hN⟩ (fun lv2 pc hd => k_lret ⟨B.exec, B.bytes, hml, findClass_of_methodNamed B.named, fun w h => hts w (List.mem_cons_of_mem _ h), hK, fun q h => Or.inr h, B.returns, B.notSynchronized, hN⟩ rfl rfl hd) s.heap [] _ hP hD0.self va_S.rf hl
theorem k_finL {v r : Int64} {ws2 : va_W} (hret : ∀ (lv2 : List (Nat × Value)) (pc : Nat), decode cc pc = .ok (.lreturn, 1) → KJ p l e R s m args below meth c cells slots Q D A nL ws2 lv2 [.long r] pc) (hr : v = r) (hw : ws = ws2) (hd : decode cc pc = .ok (.lreturn, 1)) : KJ p l e R s m args below meth c cells slots Q D A nL ws lv [.long v] pc := by
  subst hr hw
  exact hret _ _ hd
theorem kV_of {y : MethodName} {code : ByteArray} {F L : Nat} {av : List Value} {ws2 : va_W} (hown : y.cls = own) (hlv : lv_args 0 av = lv) (hy : plainName y.cls = true) (hn : (lg_sl av).length ≤ nL) (body : ∀ (p : Program) (e : Env) (s : State) (m : MethodId) (args : Array Value) (below : List Frame) (meth : Method) (c : Code) (Q : State → Prop) (A : Nat → Prop), KC p s m args meth c code nL own none D tys A → (∀ (lv2 : List (Nat × Value)) (pc : Nat), decode code pc = .ok (.return_, 1) → KJ p l e (kR F L) s m args below meth c 0 0 Q D A nL ws2 lv2 [] pc) → KJ p l e (kR F L) s m args below meth c 0 0 Q D A nL ws lv [] 0) : kV l y code nL F L D tys av ws ws2 := by
  subst hown hlv
  intro sz
  refine Met.ofW (cc := code) (maxL := nL) (ret := none) hy rfl ?_
  intro p e s m args below meth c s₁ B hml hv
  obtain ⟨rfl, hsz, hP, hK, hD0, hN⟩ := hv
  subst hsz
  have hts := atoms_spec (ws := .code y code nL none :: lw_all) B.pre
  have hl := lv_entry av (n := nL) hn
  rw [lg_entry_eq]
  exact body p e s m _ below meth c _ _ ⟨B.exec, B.bytes, hml, findClass_of_methodNamed B.named, fun w h => hts w (List.mem_cons_of_mem _ h), hK, fun q h => Or.inr h, B.returns, B.notSynchronized, hN⟩ (fun lv2 pc hd => k_vret ⟨B.exec, B.bytes, hml, findClass_of_methodNamed B.named, fun w h => hts w (List.mem_cons_of_mem _ h), hK, fun q h => Or.inr h, B.returns, B.notSynchronized, hN⟩ rfl hd) s.heap [] _ hP hD0.self va_S.rf hl
theorem k_finV {ws2 : va_W} (hret : ∀ (lv2 : List (Nat × Value)) (pc : Nat), decode cc pc = .ok (.return_, 1) → KJ p l e R s m args below meth c cells slots Q D A nL ws2 lv2 [] pc) (hw : ws = ws2) (hd : decode cc pc = .ok (.return_, 1)) : KJ p l e R s m args below meth c cells slots Q D A nL ws lv [] pc := by
  subst hw
  exact hret _ _ hd
theorem k_callVi (C : KC p s m args meth c cc nL own ret D tys A) {b : Nat} {As rest : List Value} {index n : Nat} {y : MethodName} {bytes : ByteArray} {maxL F L : Nat} {wc wc2 ws2 : va_W} {rt : FieldType} {r : Int32} (hM : kI l y bytes maxL rt F L D tys (.ref b :: As) wc r wc2) (cw : kCWv y bytes maxL (some rt) n) (hlk : Cond.methodLink own index y ∈ lw_all) {ci : Nat} {T : u_T} {N : Nat} {ty0 : Nat → FieldType} {fs : List Value} (X : kCls ci y.cls T N ty0) (q0 : Nat) (hrv : ws[q0]? = some (b, .inr (ci, fs))) (isC : List Nat) (hC : isC.map (fun i => ws[i]?) = wc.map some) (ha : wc2.map (fun q => q.1) = wc.map (fun q => q.1)) (hnd : va_nd isC = true) (hw : kput ws isC wc2 = ws2) (hst : st = As.reverse ++ .ref b :: rest) (hcat : (rest.map fun v => v.category).sum ≤ 8) (hR : F + 1 ≤ R.frames ∧ 8 + (maxL + 11) + L ≤ R.locals) (hn : As.length = n) (hcs : cells ≤ R.cells ∧ slots ≤ R.slots) (hd : decode cc pc = .ok (.invokevirtual index, 3)) (h : KJ p l e R s m args below meth c cells slots Q D A nL ws2 lv (.int r :: rest) (pc + 3)) : KJ p l e R s m args below meth c cells slots Q D A nL ws lv st pc := by
  intro H locs ls hP hD hS hl
  obtain ⟨hx, hb, hml, hown, hts, hK, hA, hr0, hlks, hN⟩ := C
  have hDc : va_D A wc := hD.sub isC hnd hC
  have hPc : va_P D vwCl wc H := by
    intro k q hk
    have h1 : (isC.map (fun i => ws[i]?))[k]? = some (some q) := by rw [hC, List.getElem?_map, hk]; rfl
    rw [List.getElem?_map] at h1
    cases hi : isC[k]? with
    | none => rw [hi] at h1; cases h1
    | some i => rw [hi] at h1; exact hP i q (Option.some.inj h1)
  have hFc := va_free (wc := wc) hD hS hA isC hC
  obtain ⟨⟨c1, c2, c3⟩, c4, c5⟩ := cw
  have hcw : CallW R s args own y.cls index y bytes maxL (some rt) (.code y bytes maxL (some rt) :: lw_all) (kR F L) 0 0 n := ⟨callB_of n hts (k_goodIn c1) rfl rfl rfl (hts _ c2) (hts _ hlk) c3 hR, hts _ c4, hts _ c5⟩
  refine va_calli (va_runV (As := As) (rest := rest) ⟨hx, hb, hml, hown, hts⟩ (hM H.size) hcw ⟨fun a U g mk q => ⟨q.1, q.2.1, q.2.2.1, q.2.2.2.1, q.2.2.2.2.1, kN.same (u := U) rfl q.2.2.2.2.2⟩, va_recv hK hP X.1 hrv, fun U hU hW => ⟨rfl, by rw [hU], by rw [hU]; exact hPc, va_K.moved hW.alike hK, hDc.weaken (fun _ _ _ _ => trivial), hN.warm hW⟩⟩ rfl hn hl.1 hst (lv_room hcat) hd ⟨hcs.1, hcs.2⟩) hS (fun q _ h => hFc q h) hFc (fun r2 u t H1 locs1 ht hvm hw2 hB hz1 hk1 hS1 => ?_)
  obtain ⟨hP1, hK1, hD1⟩ := hB
  rw [ht] at hP1
  subst hw2
  obtain ⟨hP2, hD2⟩ := k_back hP hD isC hC ha hnd hw hk1 hP1
  exact h H1 locs1 ls hP2 hD2 hS1 hl
theorem k_callVl (C : KC p s m args meth c cc nL own ret D tys A) {b : Nat} {As rest : List Value} {index n : Nat} {y : MethodName} {bytes : ByteArray} {maxL F L : Nat} {wc wc2 ws2 : va_W} {r : Int64} (hM : kL l y bytes maxL .long F L D tys (.ref b :: As) wc r wc2) (cw : kCWv y bytes maxL (some .long) n) (hlk : Cond.methodLink own index y ∈ lw_all) {ci : Nat} {T : u_T} {N : Nat} {ty0 : Nat → FieldType} {fs : List Value} (X : kCls ci y.cls T N ty0) (q0 : Nat) (hrv : ws[q0]? = some (b, .inr (ci, fs))) (isC : List Nat) (hC : isC.map (fun i => ws[i]?) = wc.map some) (ha : wc2.map (fun q => q.1) = wc.map (fun q => q.1)) (hnd : va_nd isC = true) (hw : kput ws isC wc2 = ws2) (hst : st = As.reverse ++ .ref b :: rest) (hcat : (rest.map fun v => v.category).sum ≤ 8) (hR : F + 1 ≤ R.frames ∧ 8 + (maxL + 11) + L ≤ R.locals) (hn : As.length = n) (hcs : cells ≤ R.cells ∧ slots ≤ R.slots) (hd : decode cc pc = .ok (.invokevirtual index, 3)) (h : KJ p l e R s m args below meth c cells slots Q D A nL ws2 lv (.long r :: rest) (pc + 3)) : KJ p l e R s m args below meth c cells slots Q D A nL ws lv st pc := by
  intro H locs ls hP hD hS hl
  obtain ⟨hx, hb, hml, hown, hts, hK, hA, hr0, hlks, hN⟩ := C
  have hDc : va_D A wc := hD.sub isC hnd hC
  have hPc : va_P D vwCl wc H := by
    intro k q hk
    have h1 : (isC.map (fun i => ws[i]?))[k]? = some (some q) := by rw [hC, List.getElem?_map, hk]; rfl
    rw [List.getElem?_map] at h1
    cases hi : isC[k]? with
    | none => rw [hi] at h1; cases h1
    | some i => rw [hi] at h1; exact hP i q (Option.some.inj h1)
  have hFc := va_free (wc := wc) hD hS hA isC hC
  obtain ⟨⟨c1, c2, c3⟩, c4, c5⟩ := cw
  have hcw : CallW R s args own y.cls index y bytes maxL (some .long) (.code y bytes maxL (some .long) :: lw_all) (kR F L) 0 0 n := ⟨callB_of n hts (k_goodIn c1) rfl rfl rfl (hts _ c2) (hts _ hlk) c3 hR, hts _ c4, hts _ c5⟩
  refine va_calll (va_runV (As := As) (rest := rest) ⟨hx, hb, hml, hown, hts⟩ (hM H.size) hcw ⟨fun a U g mk q => ⟨q.1, q.2.1, q.2.2.1, q.2.2.2.1, q.2.2.2.2.1, kN.same (u := U) rfl q.2.2.2.2.2⟩, va_recv hK hP X.1 hrv, fun U hU hW => ⟨rfl, by rw [hU], by rw [hU]; exact hPc, va_K.moved hW.alike hK, hDc.weaken (fun _ _ _ _ => trivial), hN.warm hW⟩⟩ rfl hn hl.1 hst (lv_room hcat) hd ⟨hcs.1, hcs.2⟩) hS (fun q _ h => hFc q h) hFc (fun r2 u t H1 locs1 ht hvm hw2 hB hz1 hk1 hS1 => ?_)
  obtain ⟨hP1, hK1, hD1⟩ := hB
  rw [ht] at hP1
  subst hw2
  obtain ⟨hP2, hD2⟩ := k_back hP hD isC hC ha hnd hw hk1 hP1
  exact h H1 locs1 ls hP2 hD2 hS1 hl
theorem k_callVv (C : KC p s m args meth c cc nL own ret D tys A) {b : Nat} {As rest : List Value} {index n : Nat} {y : MethodName} {bytes : ByteArray} {maxL F L : Nat} {wc wc2 ws2 : va_W}  (hM : kV l y bytes maxL  F L D tys (.ref b :: As) wc  wc2) (cw : kCWv y bytes maxL none n) (hlk : Cond.methodLink own index y ∈ lw_all) {ci : Nat} {T : u_T} {N : Nat} {ty0 : Nat → FieldType} {fs : List Value} (X : kCls ci y.cls T N ty0) (q0 : Nat) (hrv : ws[q0]? = some (b, .inr (ci, fs))) (isC : List Nat) (hC : isC.map (fun i => ws[i]?) = wc.map some) (ha : wc2.map (fun q => q.1) = wc.map (fun q => q.1)) (hnd : va_nd isC = true) (hw : kput ws isC wc2 = ws2) (hst : st = As.reverse ++ .ref b :: rest) (hcat : (rest.map fun v => v.category).sum ≤ 8) (hR : F + 1 ≤ R.frames ∧ 8 + (maxL + 11) + L ≤ R.locals) (hn : As.length = n) (hcs : cells ≤ R.cells ∧ slots ≤ R.slots) (hd : decode cc pc = .ok (.invokevirtual index, 3)) (h : KJ p l e R s m args below meth c cells slots Q D A nL ws2 lv rest (pc + 3)) : KJ p l e R s m args below meth c cells slots Q D A nL ws lv st pc := by
  intro H locs ls hP hD hS hl
  obtain ⟨hx, hb, hml, hown, hts, hK, hA, hr0, hlks, hN⟩ := C
  have hDc : va_D A wc := hD.sub isC hnd hC
  have hPc : va_P D vwCl wc H := by
    intro k q hk
    have h1 : (isC.map (fun i => ws[i]?))[k]? = some (some q) := by rw [hC, List.getElem?_map, hk]; rfl
    rw [List.getElem?_map] at h1
    cases hi : isC[k]? with
    | none => rw [hi] at h1; cases h1
    | some i => rw [hi] at h1; exact hP i q (Option.some.inj h1)
  have hFc := va_free (wc := wc) hD hS hA isC hC
  obtain ⟨⟨c1, c2, c3⟩, c4, c5⟩ := cw
  have hcw : CallW R s args own y.cls index y bytes maxL none (.code y bytes maxL none :: lw_all) (kR F L) 0 0 n := ⟨callB_of n hts (k_goodIn c1) rfl rfl rfl (hts _ c2) (hts _ hlk) c3 hR, hts _ c4, hts _ c5⟩
  refine va_callv (va_runV (As := As) (rest := rest) ⟨hx, hb, hml, hown, hts⟩ (hM H.size) hcw ⟨fun a U g mk q => ⟨q.1, q.2.1, q.2.2.1, q.2.2.2.1, q.2.2.2.2.1, kN.same (u := U) rfl q.2.2.2.2.2⟩, va_recv hK hP X.1 hrv, fun U hU hW => ⟨rfl, by rw [hU], by rw [hU]; exact hPc, va_K.moved hW.alike hK, hDc.weaken (fun _ _ _ _ => trivial), hN.warm hW⟩⟩ rfl hn hl.1 hst (lv_room hcat) hd ⟨hcs.1, hcs.2⟩) hS (fun q _ h => hFc q h) hFc (fun u t H1 locs1 ht hvm hw2 hB hz1 hk1 hS1 => ?_)
  obtain ⟨hP1, hK1, hD1⟩ := hB
  rw [ht] at hP1
  obtain ⟨hP2, hD2⟩ := k_back hP hD isC hC ha hnd hw hk1 hP1
  exact h H1 locs1 ls hP2 hD2 hS1 hl
theorem k_callSi (C : KC p s m args meth c cc nL own ret D tys A) {As rest : List Value} {index n : Nat} {y : MethodName} {bytes : ByteArray} {maxL F L : Nat} {wc wc2 ws2 : va_W} {rt : FieldType} {r : Int32} (hM : kI l y bytes maxL rt F L D tys (As) wc r wc2) (cw : kCWs y bytes maxL (some rt) n) (hlk : Cond.methodLink own index y ∈ lw_all) (isC : List Nat) (hC : isC.map (fun i => ws[i]?) = wc.map some) (ha : wc2.map (fun q => q.1) = wc.map (fun q => q.1)) (hnd : va_nd isC = true) (hw : kput ws isC wc2 = ws2) (hst : st = As.reverse ++ rest) (hcat : (rest.map fun v => v.category).sum ≤ 8) (hR : F + 1 ≤ R.frames ∧ 8 + (maxL + 11) + L ≤ R.locals) (hn : As.length = n) (hcs : cells ≤ R.cells ∧ slots ≤ R.slots) (hd : decode cc pc = .ok (.invokestatic index, 3)) (h : KJ p l e R s m args below meth c cells slots Q D A nL ws2 lv (.int r :: rest) (pc + 3)) : KJ p l e R s m args below meth c cells slots Q D A nL ws lv st pc := by
  intro H locs ls hP hD hS hl
  obtain ⟨hx, hb, hml, hown, hts, hK, hA, hr0, hlks, hN⟩ := C
  have hDc : va_D A wc := hD.sub isC hnd hC
  have hPc : va_P D vwCl wc H := by
    intro k q hk
    have h1 : (isC.map (fun i => ws[i]?))[k]? = some (some q) := by rw [hC, List.getElem?_map, hk]; rfl
    rw [List.getElem?_map] at h1
    cases hi : isC[k]? with
    | none => rw [hi] at h1; cases h1
    | some i => rw [hi] at h1; exact hP i q (Option.some.inj h1)
  have hFc := va_free (wc := wc) hD hS hA isC hC
  obtain ⟨⟨c1, c2, c3⟩, c4⟩ := cw
  have hcw : CallB R s args own index y bytes maxL (some rt) (.code y bytes maxL (some rt) :: lw_all) (kR F L) 0 0 n ∧ (Cond.static y).before args s = true := ⟨callB_of n hts (k_goodIn c1) rfl rfl rfl (hts _ c2) (hts _ hlk) c3 hR, hts _ c4⟩
  refine va_calli (va_runS (As := As) (rest := rest) ⟨hx, hb, hml, hown, hts⟩ (hM H.size) hcw ⟨fun a U g mk q => ⟨q.1, q.2.1, q.2.2.1, q.2.2.2.1, q.2.2.2.2.1, kN.same (u := U) rfl q.2.2.2.2.2⟩, fun U hU hW => ⟨rfl, by rw [hU], by rw [hU]; exact hPc, va_K.moved hW.alike hK, hDc.weaken (fun _ _ _ _ => trivial), hN.warm hW⟩⟩ rfl hn hl.1 hst (lv_room hcat) hd ⟨hcs.1, hcs.2⟩) hS (fun q _ h => hFc q h) hFc (fun r2 u t H1 locs1 ht hvm hw2 hB hz1 hk1 hS1 => ?_)
  obtain ⟨hP1, hK1, hD1⟩ := hB
  rw [ht] at hP1
  subst hw2
  obtain ⟨hP2, hD2⟩ := k_back hP hD isC hC ha hnd hw hk1 hP1
  exact h H1 locs1 ls hP2 hD2 hS1 hl
theorem k_callSl (C : KC p s m args meth c cc nL own ret D tys A) {As rest : List Value} {index n : Nat} {y : MethodName} {bytes : ByteArray} {maxL F L : Nat} {wc wc2 ws2 : va_W} {r : Int64} (hM : kL l y bytes maxL .long F L D tys (As) wc r wc2) (cw : kCWs y bytes maxL (some .long) n) (hlk : Cond.methodLink own index y ∈ lw_all) (isC : List Nat) (hC : isC.map (fun i => ws[i]?) = wc.map some) (ha : wc2.map (fun q => q.1) = wc.map (fun q => q.1)) (hnd : va_nd isC = true) (hw : kput ws isC wc2 = ws2) (hst : st = As.reverse ++ rest) (hcat : (rest.map fun v => v.category).sum ≤ 8) (hR : F + 1 ≤ R.frames ∧ 8 + (maxL + 11) + L ≤ R.locals) (hn : As.length = n) (hcs : cells ≤ R.cells ∧ slots ≤ R.slots) (hd : decode cc pc = .ok (.invokestatic index, 3)) (h : KJ p l e R s m args below meth c cells slots Q D A nL ws2 lv (.long r :: rest) (pc + 3)) : KJ p l e R s m args below meth c cells slots Q D A nL ws lv st pc := by
  intro H locs ls hP hD hS hl
  obtain ⟨hx, hb, hml, hown, hts, hK, hA, hr0, hlks, hN⟩ := C
  have hDc : va_D A wc := hD.sub isC hnd hC
  have hPc : va_P D vwCl wc H := by
    intro k q hk
    have h1 : (isC.map (fun i => ws[i]?))[k]? = some (some q) := by rw [hC, List.getElem?_map, hk]; rfl
    rw [List.getElem?_map] at h1
    cases hi : isC[k]? with
    | none => rw [hi] at h1; cases h1
    | some i => rw [hi] at h1; exact hP i q (Option.some.inj h1)
  have hFc := va_free (wc := wc) hD hS hA isC hC
  obtain ⟨⟨c1, c2, c3⟩, c4⟩ := cw
  have hcw : CallB R s args own index y bytes maxL (some .long) (.code y bytes maxL (some .long) :: lw_all) (kR F L) 0 0 n ∧ (Cond.static y).before args s = true := ⟨callB_of n hts (k_goodIn c1) rfl rfl rfl (hts _ c2) (hts _ hlk) c3 hR, hts _ c4⟩
  refine va_calll (va_runS (As := As) (rest := rest) ⟨hx, hb, hml, hown, hts⟩ (hM H.size) hcw ⟨fun a U g mk q => ⟨q.1, q.2.1, q.2.2.1, q.2.2.2.1, q.2.2.2.2.1, kN.same (u := U) rfl q.2.2.2.2.2⟩, fun U hU hW => ⟨rfl, by rw [hU], by rw [hU]; exact hPc, va_K.moved hW.alike hK, hDc.weaken (fun _ _ _ _ => trivial), hN.warm hW⟩⟩ rfl hn hl.1 hst (lv_room hcat) hd ⟨hcs.1, hcs.2⟩) hS (fun q _ h => hFc q h) hFc (fun r2 u t H1 locs1 ht hvm hw2 hB hz1 hk1 hS1 => ?_)
  obtain ⟨hP1, hK1, hD1⟩ := hB
  rw [ht] at hP1
  subst hw2
  obtain ⟨hP2, hD2⟩ := k_back hP hD isC hC ha hnd hw hk1 hP1
  exact h H1 locs1 ls hP2 hD2 hS1 hl
theorem k_callSv (C : KC p s m args meth c cc nL own ret D tys A) {As rest : List Value} {index n : Nat} {y : MethodName} {bytes : ByteArray} {maxL F L : Nat} {wc wc2 ws2 : va_W}  (hM : kV l y bytes maxL  F L D tys (As) wc  wc2) (cw : kCWs y bytes maxL none n) (hlk : Cond.methodLink own index y ∈ lw_all) (isC : List Nat) (hC : isC.map (fun i => ws[i]?) = wc.map some) (ha : wc2.map (fun q => q.1) = wc.map (fun q => q.1)) (hnd : va_nd isC = true) (hw : kput ws isC wc2 = ws2) (hst : st = As.reverse ++ rest) (hcat : (rest.map fun v => v.category).sum ≤ 8) (hR : F + 1 ≤ R.frames ∧ 8 + (maxL + 11) + L ≤ R.locals) (hn : As.length = n) (hcs : cells ≤ R.cells ∧ slots ≤ R.slots) (hd : decode cc pc = .ok (.invokestatic index, 3)) (h : KJ p l e R s m args below meth c cells slots Q D A nL ws2 lv rest (pc + 3)) : KJ p l e R s m args below meth c cells slots Q D A nL ws lv st pc := by
  intro H locs ls hP hD hS hl
  obtain ⟨hx, hb, hml, hown, hts, hK, hA, hr0, hlks, hN⟩ := C
  have hDc : va_D A wc := hD.sub isC hnd hC
  have hPc : va_P D vwCl wc H := by
    intro k q hk
    have h1 : (isC.map (fun i => ws[i]?))[k]? = some (some q) := by rw [hC, List.getElem?_map, hk]; rfl
    rw [List.getElem?_map] at h1
    cases hi : isC[k]? with
    | none => rw [hi] at h1; cases h1
    | some i => rw [hi] at h1; exact hP i q (Option.some.inj h1)
  have hFc := va_free (wc := wc) hD hS hA isC hC
  obtain ⟨⟨c1, c2, c3⟩, c4⟩ := cw
  have hcw : CallB R s args own index y bytes maxL none (.code y bytes maxL none :: lw_all) (kR F L) 0 0 n ∧ (Cond.static y).before args s = true := ⟨callB_of n hts (k_goodIn c1) rfl rfl rfl (hts _ c2) (hts _ hlk) c3 hR, hts _ c4⟩
  refine va_callv (va_runS (As := As) (rest := rest) ⟨hx, hb, hml, hown, hts⟩ (hM H.size) hcw ⟨fun a U g mk q => ⟨q.1, q.2.1, q.2.2.1, q.2.2.2.1, q.2.2.2.2.1, kN.same (u := U) rfl q.2.2.2.2.2⟩, fun U hU hW => ⟨rfl, by rw [hU], by rw [hU]; exact hPc, va_K.moved hW.alike hK, hDc.weaken (fun _ _ _ _ => trivial), hN.warm hW⟩⟩ rfl hn hl.1 hst (lv_room hcat) hd ⟨hcs.1, hcs.2⟩) hS (fun q _ h => hFc q h) hFc (fun u t H1 locs1 ht hvm hw2 hB hz1 hk1 hS1 => ?_)
  obtain ⟨hP1, hK1, hD1⟩ := hB
  rw [ht] at hP1
  obtain ⟨hP2, hD2⟩ := k_back hP hD isC hC ha hnd hw hk1 hP1
  exact h H1 locs1 ls hP2 hD2 hS1 hl
theorem k_callNi (C : KC p s m args meth c cc nL own ret D tys A) {As rest : List Value} {host : String} {index n : Nat} {y : MethodName} {bytes : ByteArray} {maxL F L : Nat} {wc wc2 ws2 : va_W} {rt : FieldType} {r : Int32} (hM : kI l y bytes maxL rt F L D tys (As) wc r wc2) (cw : kCWs y bytes maxL (some rt) n) (hlk : Cond.methodLinkNest own index y host ∈ lw_nest) (isC : List Nat) (hC : isC.map (fun i => ws[i]?) = wc.map some) (ha : wc2.map (fun q => q.1) = wc.map (fun q => q.1)) (hnd : va_nd isC = true) (hw : kput ws isC wc2 = ws2) (hst : st = As.reverse ++ rest) (hcat : (rest.map fun v => v.category).sum ≤ 8) (hR : F + 1 ≤ R.frames ∧ 8 + (maxL + 11) + L ≤ R.locals) (hn : As.length = n) (hcs : cells ≤ R.cells ∧ slots ≤ R.slots) (hd : decode cc pc = .ok (.invokestatic index, 3)) (h : KJ p l e R s m args below meth c cells slots Q D A nL ws2 lv (.int r :: rest) (pc + 3)) : KJ p l e R s m args below meth c cells slots Q D A nL ws lv st pc := by
  intro H locs ls hP hD hS hl
  obtain ⟨hx, hb, hml, hown, hts, hK, hA, hr0, hlks, hN⟩ := C
  have hDc : va_D A wc := hD.sub isC hnd hC
  have hPc : va_P D vwCl wc H := by
    intro k q hk
    have h1 : (isC.map (fun i => ws[i]?))[k]? = some (some q) := by rw [hC, List.getElem?_map, hk]; rfl
    rw [List.getElem?_map] at h1
    cases hi : isC[k]? with
    | none => rw [hi] at h1; cases h1
    | some i => rw [hi] at h1; exact hP i q (Option.some.inj h1)
  have hFc := va_free (wc := wc) hD hS hA isC hC
  obtain ⟨⟨c1, c2, c3⟩, c4⟩ := cw
  have hcw : va_CN R s args own index y host bytes maxL (some rt) (.code y bytes maxL (some rt) :: lw_all) (kR F L) 0 0 n ∧ (Cond.static y).before args s = true ∧ True := ⟨va_cnB n hts (k_goodIn c1) rfl rfl rfl (hN _ hlk) (hts _ c2) c3 hR, hts _ c4, trivial⟩
  refine va_calli (va_runSN (As := As) (rest := rest) ⟨hx, hb, hml, hown, hts⟩ (hM H.size) hcw ⟨fun a U g mk q => ⟨q.1, q.2.1, q.2.2.1, q.2.2.2.1, q.2.2.2.2.1, kN.same (u := U) rfl q.2.2.2.2.2⟩, fun U hU hW => ⟨rfl, by rw [hU], by rw [hU]; exact hPc, va_K.moved hW.alike hK, hDc.weaken (fun _ _ _ _ => trivial), hN.warm hW⟩⟩ rfl hn hl.1 hst (lv_room hcat) hd ⟨hcs.1, hcs.2⟩) hS (fun q _ h => hFc q h) hFc (fun r2 u t H1 locs1 ht hvm hw2 hB hz1 hk1 hS1 => ?_)
  obtain ⟨hP1, hK1, hD1⟩ := hB
  rw [ht] at hP1
  subst hw2
  obtain ⟨hP2, hD2⟩ := k_back hP hD isC hC ha hnd hw hk1 hP1
  exact h H1 locs1 ls hP2 hD2 hS1 hl
theorem k_callNl (C : KC p s m args meth c cc nL own ret D tys A) {As rest : List Value} {host : String} {index n : Nat} {y : MethodName} {bytes : ByteArray} {maxL F L : Nat} {wc wc2 ws2 : va_W} {r : Int64} (hM : kL l y bytes maxL .long F L D tys (As) wc r wc2) (cw : kCWs y bytes maxL (some .long) n) (hlk : Cond.methodLinkNest own index y host ∈ lw_nest) (isC : List Nat) (hC : isC.map (fun i => ws[i]?) = wc.map some) (ha : wc2.map (fun q => q.1) = wc.map (fun q => q.1)) (hnd : va_nd isC = true) (hw : kput ws isC wc2 = ws2) (hst : st = As.reverse ++ rest) (hcat : (rest.map fun v => v.category).sum ≤ 8) (hR : F + 1 ≤ R.frames ∧ 8 + (maxL + 11) + L ≤ R.locals) (hn : As.length = n) (hcs : cells ≤ R.cells ∧ slots ≤ R.slots) (hd : decode cc pc = .ok (.invokestatic index, 3)) (h : KJ p l e R s m args below meth c cells slots Q D A nL ws2 lv (.long r :: rest) (pc + 3)) : KJ p l e R s m args below meth c cells slots Q D A nL ws lv st pc := by
  intro H locs ls hP hD hS hl
  obtain ⟨hx, hb, hml, hown, hts, hK, hA, hr0, hlks, hN⟩ := C
  have hDc : va_D A wc := hD.sub isC hnd hC
  have hPc : va_P D vwCl wc H := by
    intro k q hk
    have h1 : (isC.map (fun i => ws[i]?))[k]? = some (some q) := by rw [hC, List.getElem?_map, hk]; rfl
    rw [List.getElem?_map] at h1
    cases hi : isC[k]? with
    | none => rw [hi] at h1; cases h1
    | some i => rw [hi] at h1; exact hP i q (Option.some.inj h1)
  have hFc := va_free (wc := wc) hD hS hA isC hC
  obtain ⟨⟨c1, c2, c3⟩, c4⟩ := cw
  have hcw : va_CN R s args own index y host bytes maxL (some .long) (.code y bytes maxL (some .long) :: lw_all) (kR F L) 0 0 n ∧ (Cond.static y).before args s = true ∧ True := ⟨va_cnB n hts (k_goodIn c1) rfl rfl rfl (hN _ hlk) (hts _ c2) c3 hR, hts _ c4, trivial⟩
  refine va_calll (va_runSN (As := As) (rest := rest) ⟨hx, hb, hml, hown, hts⟩ (hM H.size) hcw ⟨fun a U g mk q => ⟨q.1, q.2.1, q.2.2.1, q.2.2.2.1, q.2.2.2.2.1, kN.same (u := U) rfl q.2.2.2.2.2⟩, fun U hU hW => ⟨rfl, by rw [hU], by rw [hU]; exact hPc, va_K.moved hW.alike hK, hDc.weaken (fun _ _ _ _ => trivial), hN.warm hW⟩⟩ rfl hn hl.1 hst (lv_room hcat) hd ⟨hcs.1, hcs.2⟩) hS (fun q _ h => hFc q h) hFc (fun r2 u t H1 locs1 ht hvm hw2 hB hz1 hk1 hS1 => ?_)
  obtain ⟨hP1, hK1, hD1⟩ := hB
  rw [ht] at hP1
  subst hw2
  obtain ⟨hP2, hD2⟩ := k_back hP hD isC hC ha hnd hw hk1 hP1
  exact h H1 locs1 ls hP2 hD2 hS1 hl
theorem k_callNv (C : KC p s m args meth c cc nL own ret D tys A) {As rest : List Value} {host : String} {index n : Nat} {y : MethodName} {bytes : ByteArray} {maxL F L : Nat} {wc wc2 ws2 : va_W}  (hM : kV l y bytes maxL  F L D tys (As) wc  wc2) (cw : kCWs y bytes maxL none n) (hlk : Cond.methodLinkNest own index y host ∈ lw_nest) (isC : List Nat) (hC : isC.map (fun i => ws[i]?) = wc.map some) (ha : wc2.map (fun q => q.1) = wc.map (fun q => q.1)) (hnd : va_nd isC = true) (hw : kput ws isC wc2 = ws2) (hst : st = As.reverse ++ rest) (hcat : (rest.map fun v => v.category).sum ≤ 8) (hR : F + 1 ≤ R.frames ∧ 8 + (maxL + 11) + L ≤ R.locals) (hn : As.length = n) (hcs : cells ≤ R.cells ∧ slots ≤ R.slots) (hd : decode cc pc = .ok (.invokestatic index, 3)) (h : KJ p l e R s m args below meth c cells slots Q D A nL ws2 lv rest (pc + 3)) : KJ p l e R s m args below meth c cells slots Q D A nL ws lv st pc := by
  intro H locs ls hP hD hS hl
  obtain ⟨hx, hb, hml, hown, hts, hK, hA, hr0, hlks, hN⟩ := C
  have hDc : va_D A wc := hD.sub isC hnd hC
  have hPc : va_P D vwCl wc H := by
    intro k q hk
    have h1 : (isC.map (fun i => ws[i]?))[k]? = some (some q) := by rw [hC, List.getElem?_map, hk]; rfl
    rw [List.getElem?_map] at h1
    cases hi : isC[k]? with
    | none => rw [hi] at h1; cases h1
    | some i => rw [hi] at h1; exact hP i q (Option.some.inj h1)
  have hFc := va_free (wc := wc) hD hS hA isC hC
  obtain ⟨⟨c1, c2, c3⟩, c4⟩ := cw
  have hcw : va_CN R s args own index y host bytes maxL none (.code y bytes maxL none :: lw_all) (kR F L) 0 0 n ∧ (Cond.static y).before args s = true ∧ True := ⟨va_cnB n hts (k_goodIn c1) rfl rfl rfl (hN _ hlk) (hts _ c2) c3 hR, hts _ c4, trivial⟩
  refine va_callv (va_runSN (As := As) (rest := rest) ⟨hx, hb, hml, hown, hts⟩ (hM H.size) hcw ⟨fun a U g mk q => ⟨q.1, q.2.1, q.2.2.1, q.2.2.2.1, q.2.2.2.2.1, kN.same (u := U) rfl q.2.2.2.2.2⟩, fun U hU hW => ⟨rfl, by rw [hU], by rw [hU]; exact hPc, va_K.moved hW.alike hK, hDc.weaken (fun _ _ _ _ => trivial), hN.warm hW⟩⟩ rfl hn hl.1 hst (lv_room hcat) hd ⟨hcs.1, hcs.2⟩) hS (fun q _ h => hFc q h) hFc (fun u t H1 locs1 ht hvm hw2 hB hz1 hk1 hS1 => ?_)
  obtain ⟨hP1, hK1, hD1⟩ := hB
  rw [ht] at hP1
  obtain ⟨hP2, hD2⟩ := k_back hP hD isC hC ha hnd hw hk1 hP1
  exact h H1 locs1 ls hP2 hD2 hS1 hl

theorem k_cellset {ws : va_W} {H : Heap} {cA : ClassId} {n q1 h1 : Nat} {f g : Nat → Int32} {e0 : va_E} (h : va_P D vwCl (ws.set q1 (h1, .inl (cA, n, .inl g))) H) (he : ws[q1]? = some (h1, e0)) (hfg : ∀ j, j < n → g j = f j) : va_P D vwCl (ws.set q1 (h1, .inl (cA, n, .inl f))) H := by
  intro k q hk
  have hc : vp_cell cA (n, .inl g) = vp_cell cA (n, .inl f) := by
    show arrV cA n (fun j => .int (g j)) = arrV cA n (fun j => .int (f j))
    unfold arrV
    congr 1
    refine congrArg Array.ofFn (funext fun j => ?_)
    exact congrArg Value.int (hfg j.val j.isLt)
  by_cases hq : q1 = k
  · subst hq
    have hl : q1 < ws.length := (List.getElem?_eq_some_iff.mp he).1
    rw [List.getElem?_set_self hl] at hk
    have h9 := h q1 (h1, .inl (cA, n, .inl g)) (by rw [List.getElem?_set_self hl])
    have hk2 : (h1, (.inl (cA, n, .inl f) : va_E)) = q := Option.some.inj hk
    subst hk2
    show H[h1]? = some (vp_cell cA (n, .inl f))
    rw [← hc]
    exact h9
  · rw [List.getElem?_set_ne hq] at hk
    exact h k q (by rw [List.getElem?_set_ne hq]; exact hk)
theorem k_copy (C : KC p s m args meth c cc nL own ret D tys A) {cA : ClassId} {h0 h1 n : Nat} {f g : Nat → Int32} {x : Int32} {index : Nat} {ws2 : va_W} (hq : Cond.methodLink own index arraycopyName ∈ lw_all) (hnat : Cond.native arraycopyName ∈ lw_all) (hstat : Cond.static arraycopyName ∈ lw_all) (hini : Cond.initialized "java/lang/System" ∈ lw_all) (q0 q1 t0 : Nat) (ha0 : ws[q0]? = some (h0, .inl (cA, n, .inl f))) (ha1 : ws[q1]? = some (h1, .inl (cA, n, .inl g))) (ht0 : tys[t0]? = some (cA, .int)) (hn : n < 2 ^ 31) (hx : x = nI n) (hw : ws.set q1 (h1, .inl (cA, n, .inl f)) = ws2) (hR : 1 ≤ R.frames ∧ (st.map fun v => v.category).sum + (nativeFrameWords "java/lang/System" "arraycopy" 5 + 11) ≤ R.locals) (hd : decode cc pc = .ok (.invokestatic index, 3)) (h : KJ p l e R s m args below meth c cells slots Q D A nL ws2 lv st (pc + 3)) : KJ p l e R s m args below meth c cells slots Q D A nL ws lv (.int x :: .int 0 :: .ref h1 :: .int 0 :: .ref h0 :: st) pc := by
  intro H locs ls hP hD hS hl
  obtain ⟨hx0, hb, hml, hown, hts, hK, hA, hr0, hlks, hN⟩ := C
  subst hx
  have hz : (0 : Int32).toNatClampNeg = 0 := by decide
  have hc : (nI n).toNatClampNeg = n := nI_clamp hn
  refine va_copyi hx0 hb (hml.trans hl.1.symm) hown (hts _ hq) (hts _ hnat) (hts _ hstat) (hts _ hini) hK hP hD hS q0 q1 t0 t0 ha0 ha1 ht0 ht0 rfl (by decide) (by decide) (nI_pos hn) (by rw [hz, hc]; omega) (by rw [hz, hc]; omega) (fun i _ => rfl) hR.1 hR.2 hd (fun H1 locs1 hP1 hD1 hS1 => ?_)
  rw [hz, hc] at hP1 hD1
  have hP2 := k_cellset (f := f) hP1 ha1 (fun j hj => by unfold va_cpy; rw [if_pos ⟨Nat.zero_le _, by omega⟩, Nat.zero_add, Nat.sub_zero])
  have hD2 : va_D A (ws.set q1 (h1, .inl (cA, n, .inl f))) := hD.set ha1
  rw [hw] at hP2 hD2
  exact h H1 locs1 ls hP2 hD2 hS1 hl

theorem k_ne {x v : Int32} {k : Int} (h : ¬ x = v) (hv : v.toInt = k) : ¬ x.toInt = k := fun z => h (Int32.toInt_inj.mp (z.trans hv.symm))
theorem k_tsIn (C : KC p s m args meth c cc nL own ret D tys A) {dflt lo hi : Int} {offs : Array Int} {len : Nat} {x : Int32} {off : Int} {tgt : Nat} (v : Int32) (hx : x = v) (h1 : ¬ v.toInt < lo) (h2 : ¬ hi < v.toInt) (ho : offs[(v.toInt - lo).toNat]? = some off) (ht : (pc : Int) + off = (tgt : Int)) (hd : decode cc pc = .ok (.tableswitch dflt lo hi offs, len)) (h : KJ p l e R s m args below meth c cells slots Q D A nL ws lv st tgt) : KJ p l e R s m args below meth c cells slots Q D A nL ws lv (.int x :: st) pc := by
  intro H locs ls hP hD hS hl
  subst hx
  exact lv_tableIn C.1 C.2.1 hd h1 h2 ho ht (h H locs ls hP hD hS hl)
theorem k_tsOut (C : KC p s m args meth c cc nL own ret D tys A) {dflt lo hi : Int} {offs : Array Int} {len : Nat} {x : Int32} {tgt : Nat} (hx : x.toInt < lo ∨ hi < x.toInt) (ht : (pc : Int) + dflt = (tgt : Int)) (hd : decode cc pc = .ok (.tableswitch dflt lo hi offs, len)) (h : KJ p l e R s m args below meth c cells slots Q D A nL ws lv st tgt) : KJ p l e R s m args below meth c cells slots Q D A nL ws lv (.int x :: st) pc := fun H locs ls hP hD hS hl => lv_tableOut C.1 C.2.1 hd hx ht (h H locs ls hP hD hS hl)
theorem k_lsw (C : KC p s m args meth c cc nL own ret D tys A) {dflt : Int} {ps : Array (Int × Int)} {len : Nat} {x : Int32} {off : Int} {tgt : Nat} (hp : (ps.toList.zip (ps.toList.drop 1)).all (fun (a, next) => a.1 < next.1) = true) (ho : Op.lookupswitch.offset ps.toList dflt x.toInt = off) (ht : (pc : Int) + off = (tgt : Int)) (hd : decode cc pc = .ok (.lookupswitch dflt ps, len)) (h : KJ p l e R s m args below meth c cells slots Q D A nL ws lv st tgt) : KJ p l e R s m args below meth c cells slots Q D A nL ws lv (.int x :: st) pc := fun H locs ls hP hD hS hl => lv_lookup C.1 C.2.1 hd hp ho ht (h H locs ls hP hD hS hl)
end KAY
