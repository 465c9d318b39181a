/-! rows: static rows, throws, handlers, new cells -/
theorem k_class {D : va_G} {tys : List (ClassId × FieldType)} {U : State} (hK : va_K D vwCl tys U) {k : Nat} {cA cB : ClassId} (h : tys[k]? = some (cA, .int)) (hc : U.vm.findClass "[I" = some cB) : cB = cA := by
  have h1 : U.vm.findClass ("[" ++ (FieldType.int).toString) = some cA := (hK.2 k _ h).2
  have h2 : ("[" ++ (FieldType.int).toString) = "[I" := by decide +kernel
  rw [h2] at h1
  exact Option.some.inj (hc.symm.trans h1)
theorem k_rowCell {cell : Cell} {cI : ClassId} (hc : cell.cls = cI) (hs : cell.slots.size = 12) (hj : ∀ j : Nat, j < 12 → cell.slots[j]? = some (.int (zI j))) : ({ cls := cell.cls, slots := cell.slots } : Cell) = vp_cell cI (12, .inl zI) := by
  subst hc
  show _ = arrV cell.cls 12 (fun j => .int (zI j))
  unfold arrV
  congr 1
  refine Array.ext (by rw [hs, Array.size_ofFn]) fun j h1 h2 => ?_
  have h3 := hj j (by omega)
  rw [Array.getElem?_eq_getElem h1] at h3
  rw [Array.getElem_ofFn]
  exact Option.some.inj h3
section ZROW
variable {p : Program} {l : Launch} {e : Env} {R : Room} {s : State} {m : MethodId} {args : Array Value} {below : List Frame} {meth : Method} {c : Code} {cells slots : Nat} {Q : State → Prop} {D : va_G} {A : Nat → Prop} {nL : Nat} {cc : ByteArray} {own : String} {ret : Option FieldType} {tys : List (ClassId × FieldType)} {ws : va_W} {lv : List (Nat × Value)} {st : List Value} {pc : Nat} {z : zT}
theorem k_gets0 (C : KC p s m args meth c cc nL own ret D tys A) (hZ : kZ z A s s.heap) {index : Nat} (hq : Cond.fieldLink own index RX10 "INITIAL_SETTINGS" "[I" ∈ lw_all) (hd : decode cc pc = .ok (.getstatic index, 3)) (h : KJ p l e R s m args below meth c cells slots Q D A nL ws lv (.ref z.1 :: st) (pc + 3)) : KJ p l e R s m args below meth c cells slots Q D A nL ws lv st pc := fun H locs ls hP hD hS hl => va_gets C.1 C.2.1 hZ.1.1 hS C.2.2.2.1 (C.2.2.2.2.1 _ hq) (fun _ h => h) hd (h H locs ls hP hD hS hl)
theorem k_tlen0 (C : KC p s m args meth c cc nL own ret D tys A) (hZ : kZ z A s s.heap) (hd : decode cc pc = .ok (.arraylength, 1)) (h : KJ p l e R s m args below meth c cells slots Q D A nL ws lv (.int 12 :: st) (pc + 1)) : KJ p l e R s m args below meth c cells slots Q D A nL ws lv (.ref z.1 :: st) pc := fun H locs ls hP hD hS hl => va_tlen C.1 C.2.1 hZ.2.1.1 hS (by decide) hd (h H locs ls hP hD hS hl)
theorem k_tia0 (C : KC p s m args meth c cc nL own ret D tys A) (hZ : kZ z A s s.heap) {i v : Int32} (hin : vp_in i 12) (hv : zI i.toNatClampNeg = v) (hd : decode cc pc = .ok (.iaload, 1)) (h : KJ p l e R s m args below meth c cells slots Q D A nL ws lv (.int v :: st) (pc + 1)) : KJ p l e R s m args below meth c cells slots Q D A nL ws lv (.int i :: .ref z.1 :: st) pc := fun H locs ls hP hD hS hl => va_ti C.1 C.2.1 hZ.2.1.1 hS hin (congrArg Value.int hv) hd (h H locs ls hP hD hS hl)
theorem k_gets1 (C : KC p s m args meth c cc nL own ret D tys A) (hZ : kZ z A s s.heap) {index : Nat} (hq : Cond.fieldLink own index RX10 "LEAST_SETTINGS" "[I" ∈ lw_all) (hd : decode cc pc = .ok (.getstatic index, 3)) (h : KJ p l e R s m args below meth c cells slots Q D A nL ws lv (.ref z.2.1 :: st) (pc + 3)) : KJ p l e R s m args below meth c cells slots Q D A nL ws lv st pc := fun H locs ls hP hD hS hl => va_gets C.1 C.2.1 hZ.1.2.1 hS C.2.2.2.1 (C.2.2.2.2.1 _ hq) (fun _ h => h) hd (h H locs ls hP hD hS hl)
theorem k_tlen1 (C : KC p s m args meth c cc nL own ret D tys A) (hZ : kZ z A s s.heap) (hd : decode cc pc = .ok (.arraylength, 1)) (h : KJ p l e R s m args below meth c cells slots Q D A nL ws lv (.int 12 :: st) (pc + 1)) : KJ p l e R s m args below meth c cells slots Q D A nL ws lv (.ref z.2.1 :: st) pc := fun H locs ls hP hD hS hl => va_tlen C.1 C.2.1 hZ.2.1.2.1 hS (by decide) hd (h H locs ls hP hD hS hl)
theorem k_tia1 (C : KC p s m args meth c cc nL own ret D tys A) (hZ : kZ z A s s.heap) {i v : Int32} (hin : vp_in i 12) (hv : zL i.toNatClampNeg = v) (hd : decode cc pc = .ok (.iaload, 1)) (h : KJ p l e R s m args below meth c cells slots Q D A nL ws lv (.int v :: st) (pc + 1)) : KJ p l e R s m args below meth c cells slots Q D A nL ws lv (.int i :: .ref z.2.1 :: st) pc := fun H locs ls hP hD hS hl => va_ti C.1 C.2.1 hZ.2.1.2.1 hS hin (congrArg Value.int hv) hd (h H locs ls hP hD hS hl)
theorem k_gets2 (C : KC p s m args meth c cc nL own ret D tys A) (hZ : kZ z A s s.heap) {index : Nat} (hq : Cond.fieldLink own index RX10 "GREATEST_SETTINGS" "[I" ∈ lw_all) (hd : decode cc pc = .ok (.getstatic index, 3)) (h : KJ p l e R s m args below meth c cells slots Q D A nL ws lv (.ref z.2.2.1 :: st) (pc + 3)) : KJ p l e R s m args below meth c cells slots Q D A nL ws lv st pc := fun H locs ls hP hD hS hl => va_gets C.1 C.2.1 hZ.1.2.2 hS C.2.2.2.1 (C.2.2.2.2.1 _ hq) (fun _ h => h) hd (h H locs ls hP hD hS hl)
theorem k_tlen2 (C : KC p s m args meth c cc nL own ret D tys A) (hZ : kZ z A s s.heap) (hd : decode cc pc = .ok (.arraylength, 1)) (h : KJ p l e R s m args below meth c cells slots Q D A nL ws lv (.int 12 :: st) (pc + 1)) : KJ p l e R s m args below meth c cells slots Q D A nL ws lv (.ref z.2.2.1 :: st) pc := fun H locs ls hP hD hS hl => va_tlen C.1 C.2.1 hZ.2.1.2.2 hS (by decide) hd (h H locs ls hP hD hS hl)
theorem k_tia2 (C : KC p s m args meth c cc nL own ret D tys A) (hZ : kZ z A s s.heap) {i v : Int32} (hin : vp_in i 12) (hv : zG i.toNatClampNeg = v) (hd : decode cc pc = .ok (.iaload, 1)) (h : KJ p l e R s m args below meth c cells slots Q D A nL ws lv (.int v :: st) (pc + 1)) : KJ p l e R s m args below meth c cells slots Q D A nL ws lv (.int i :: .ref z.2.2.1 :: st) pc := fun H locs ls hP hD hS hl => va_ti C.1 C.2.1 hZ.2.1.2.2 hS hin (congrArg Value.int hv) hd (h H locs ls hP hD hS hl)
theorem k_gets0N (C : KC p s m args meth c cc nL own ret D tys A) (hZ : kZ z A s s.heap) {index : Nat} {host : String} (hq : Cond.fieldLinkNest own index RX10 "INITIAL_SETTINGS" "[I" host ∈ lw_nest) (hd : decode cc pc = .ok (.getstatic index, 3)) (h : KJ p l e R s m args below meth c cells slots Q D A nL ws lv (.ref z.1 :: st) (pc + 3)) : KJ p l e R s m args below meth c cells slots Q D A nL ws lv st pc := fun H locs ls hP hD hS hl => va_getsN C.1 C.2.1 hZ.1.1 hS C.2.2.2.1 ((C.2.2.2.2.2.2.2.2.2 _ hq).use (k_nestTab hq)) (fun _ h => h) hd (h H locs ls hP hD hS hl)
theorem kX_of {y : MethodName} {code : ByteArray} {F L mc ms : Nat} {av : List Value} {E0 : String} {ws1 : va_W} (hown : y.cls = own) (hlv : lv_args 0 av = lv) (hy : plainName y.cls = true) (hn : (lg_sl av).length ≤ nL) (body : ∀ (p : Program) (e : Env) (s : State) (m : MethodId) (args : Array Value) (below : List Frame) (meth : Method) (c : Code), KC p s m args meth c code nL own ret D tys (va_A ws s.heap.size) → kZ z (va_A ws s.heap.size) s s.heap → (∀ x ∈ c.exceptionTable.toList, False) → KJ p l e (kRc F L mc ms) s m args below meth c 0 0 (vx_MQ below (kXQc ws s.heap.size) (kXXC D tys ws ws1 E0 s.heap.size) args s mc ms (va_A ws s.heap.size)) D (va_A ws s.heap.size) nL ws lv [] 0) : kX l y code nL ret F L mc ms D tys z av ws E0 ws1 := by
  subst hown hlv
  intro sz
  refine vx_ofW (cc := code) (maxL := nL) (ret := ret) hy rfl ?_
  intro p e s m args below meth c s₁ B hml hno hv
  obtain ⟨rfl, ⟨hsz, hP, hK, hD0, hN⟩, hZ⟩ := hv
  subst hsz
  have hts := atoms_spec (ws := .code y code nL ret :: lw_all) B.pre
  have hl := lv_entry av (n := nL) hn
  rw [lg_entry_eq]
  exact body p e s m _ below meth c ⟨B.exec, B.bytes, hml, findClass_of_methodNamed B.named, fun w h => hts w (List.mem_cons_of_mem _ h), hK, fun q h => Or.inr h, B.returns, B.notSynchronized, hN⟩ hZ hno s.heap [] _ hP hD0.self va_S.rf hl
/-- 'throw new E("text")' -/
theorem k_throw {ws0 ws1 : va_W} (C : KC p s m args meth c cc nL own ret D tys (va_A ws0 s.heap.size)) (hZ : kZ z (va_A ws0 s.heap.size) s s.heap) (hno : ∀ x ∈ c.exceptionTable.toList, False) (hl0 : l.stackTraces = false) {cls text : String} {names : List String} {ik is ic sa mc ms : Nat} (hcls : Bundle.fit cls = true) (hnames : ∀ n ∈ names, Bundle.fit n = true) (hk : Cond.classLink own ik cls ∈ lw_all) (hini : Cond.initialized cls ∈ lw_all) (hstr : vk_R own is text sa s) (hg : ∀ w ∈ (vx_atS own ic cls names).filter goodWord, w ∈ lw_all) (hb : ∀ w ∈ (vx_atS own ic cls names).filter (fun w => !goodWord w), w ∈ lw_cast) (hgood : ∀ w ∈ Cond.classLink own ik cls :: Cond.initialized cls :: vx_atS own ic cls names, vx_ot w = true)
    (d0 : decode cc pc = .ok (.new ik, 3)) (d3 : decode cc (pc + 3) = .ok (.dup, 1)) (d4 : decode cc (pc + 4) = .ok (.ldc_w is, 3)) (d7 : decode cc (pc + 7) = .ok (.invokespecial ic, 3)) (d10 : decode cc (pc + 10) = .ok (.athrow, 1))
    (hR : names.length + 3 < R.frames ∧ (st.map fun v => v.category).sum + (13 * (names.length + 1) + 43) ≤ R.locals ∧ cells + 1 ≤ R.cells ∧ slots + 6 ≤ R.slots) (hm : cells + 1 ≤ mc ∧ slots + 6 ≤ ms) : KJ p l e R s m args below meth c cells slots (vx_MQ below (kXQc ws0 s.heap.size) (kXXC D tys ws0 ws1 cls s.heap.size) args s mc ms (va_A ws0 s.heap.size)) D (va_A ws0 s.heap.size) nL ws1 lv st pc := by
  intro H locs ls hP hD hS hl
  obtain ⟨hx, hb0, hml, hown, hts, hK, hA, hr0, hlks, hN⟩ := C
  exact vx_throwSW hx hb0 hl0 hown hcls hnames (hts _ hk) (hts _ hini) hstr (vx_hat (fun w hw => hts _ (hg w hw)) hb (fun w hw => (hZ.2.2.2.2.2.1 w hw).use (k_castTab hw))) hgood hZ.2.2.1.1 hZ.2.2.1.2 hS (hl.1.trans hml.symm) d0 d3 d4 d7 d10 (fun x hx => (hno x hx).elim) hR.1 hR.2.1 hR.2.2.1 hR.2.2.2 hlks
    (fun t hv hsz hq => ⟨(), trivial, ⟨rfl, hP.kept (fun k x hx => hq x.1 (hP k x hx).lt), va_K.moved hv hK, hD⟩, ⟨Nat.le_trans hS.1 hsz, fun q h1 h2 => (hq q (Nat.lt_of_lt_of_le h1 hS.1)).trans (hS.2.1 q h1 h2)⟩⟩) hS.2.2 hm.1 hm.2
/-- a static call that throws, and no handler here -/
theorem k_xcallS {ws0 ws1 : va_W} (C : KC p s m args meth c cc nL own ret D tys (va_A ws0 s.heap.size)) (hZ : kZ z (va_A ws0 s.heap.size) s s.heap) (hno : ∀ x ∈ c.exceptionTable.toList, False) {As rest : List Value} {index n : Nat} {y : MethodName} {bytes : ByteArray} {maxL F L mc2 ms2 mc ms : Nat} {rt : Option FieldType} {E0 : String} (hM : kX l y bytes maxL rt F L mc2 ms2 D tys z As [] E0 []) (cw : kCWs y bytes maxL rt n) (hlk : Cond.methodLink own index y ∈ lw_all) (hst : st = As.reverse ++ rest) (hcat : (rest.map fun v => v.category).sum ≤ 8) (hR : F + 1 ≤ R.frames ∧ 8 + (maxL + 11) + L ≤ R.locals) (hn : As.length = n) (hcs : cells + mc2 ≤ R.cells ∧ slots + ms2 ≤ R.slots) (hm : cells + mc2 ≤ mc ∧ slots + ms2 ≤ ms) (hd0 : decode cc pc = .ok (.invokestatic index, 3)) : KJ p l e R s m args below meth c cells slots (vx_MQ below (kXQc ws0 s.heap.size) (kXXC D tys ws0 ws1 E0 s.heap.size) args s mc ms (va_A ws0 s.heap.size)) D (va_A ws0 s.heap.size) nL ws1 lv st pc := by
  intro H locs ls hP hD hS hl
  obtain ⟨hx, hb, hml, hown, hts, hK, hA, hr0, hlks, hN⟩ := C
  have hPc : va_P D vwCl ([] : va_W) H := fun k q h => by simp at h
  have hDc : va_D (va_A ws0 s.heap.size) ([] : va_W) := ⟨fun i j p q h => by simp at h, fun k q h => by simp at h⟩
  have hFc := va_free2 hDc hS hA
  obtain ⟨⟨c1, c2, c3⟩, c4⟩ := cw
  have hcw : CallB R s args own index y bytes maxL rt (.code y bytes maxL rt :: lw_all) (kRc F L mc2 ms2) mc2 ms2 n ∧ (Cond.static y).before args s = true := ⟨callB_of n hts (k_goodIn c1) rfl rfl rfl (hts _ c2) (hts _ hlk) c3 hR, hts _ c4⟩
  refine vx_callv (vx_runS (As := As) (rest := rest) ⟨hx, hb, hml, hown, hts⟩ (hM H.size) hcw ⟨fun a U g mk q => ⟨q.1, ⟨q.2.1.1, q.2.1.2.1, q.2.1.2.2.1, q.2.1.2.2.2.1, kN.same (u := U) rfl q.2.1.2.2.2.2⟩, kZ.same (u := U) rfl q.2.2⟩, fun U hU hW => ⟨rfl, ⟨by rw [hU], by rw [hU]; exact hPc, va_K.moved hW.alike hK, hDc.weaken (fun _ _ _ _ => trivial), hN.warm hW⟩, by rw [hU]; exact kZ.go hW hS hFc hZ⟩⟩ rfl hn hl.1 hst (lv_room hcat) hd0 hcs) hS (fun q _ h => hFc q h) hFc (fun q _ h => hFc q h) (fun E ce q9 u t H1 locs1 ht hv hpx hBX hz1 hk1 hS1 hce hcv hcl => ?_) (fun u t H1 locs1 ht hv hpost _ _ _ _ => hpost.elim)
  obtain ⟨rfl, -⟩ := hBX
  have hold : ∀ q : Nat, q < H.size → H1[q]? = H[q]? := fun q hq => hk1 q hq (fun hA2 => by
    rcases hA2 with ⟨k, e, hk⟩ | h
    · simp at hk
    · omega)
  exact vx_out (fun x hx => (hno x hx).elim) hlks hce hcv hcl (fun t2 ht2 hv2 => ⟨(), trivial, ⟨rfl, by rw [ht2]; exact hP.kept (fun k x hx => hold x.1 (hP k x hx).lt), va_K.moved hv2 hK, hD⟩, hS1.F ht2⟩) hS1.2.2 hm.1 hm.2
/-- a call of an object's method that throws: the handler at 'x' takes it -/
theorem k_xcatchVP (C : KC p s m args meth c cc nL own ret D tys A) (hZ : kZ z A s s.heap) {b : Nat} {As rest : List Value} {index n : Nat} {y : MethodName} {bytes : ByteArray} {maxL F L mc ms : Nat} {rt : Option FieldType} {E0 name : String} {wc wc1 wr : va_W} (hM : kX l y bytes maxL rt F L mc ms D tys z (.ref b :: As) wc E0 wc1) (cw : kCWv y bytes maxL rt n) (hlk : Cond.methodLink own index y ∈ lw_all) {ci : Nat} {T0 : u_T} {N : Nat} {ty0 : Nat → FieldType} {fs : List Value} (X : kCls ci y.cls T0 N ty0) (q0 : Nat) (hrv : ws[q0]? = some (b, .inr (ci, fs))) (hpm : ws.Perm (wc ++ wr)) (hst : st = As.reverse ++ .ref b :: rest) (hcat : (rest.map fun v => v.category).sum ≤ 8) (hR : F + 1 ≤ R.frames ∧ 8 + (maxL + 11) + L ≤ R.locals) (hn : As.length = n) (hcs : cells + mc ≤ R.cells ∧ slots + ms ≤ R.slots) (hd0 : decode cc pc = .ok (.invokevirtual index, 3))
    (pre : List ExceptionTableEntry) (x : ExceptionTableEntry) (suf : List ExceptionTableEntry) (hsplit : c.exceptionTable.toList = pre ++ x :: suf) (hpass : ∀ z ∈ pre, covers z pc = false ∨ (z.catchType ≠ 0 ∧ ∃ nm : String, Cond.classLink own z.catchType nm ∈ lw_all ∧ va_Nc E0 nm s)) (hx0 : covers x pc = true) (h0 : x.catchType ≠ 0) (hlink : Cond.classLink own x.catchType name ∈ lw_all) (hcast : Cond.castable E0 name ∈ lw_cast)
    (h : ∀ q9 : Nat, KJ p l e R s m args below meth c (cells + mc) (slots + ms) Q D A nL (wr ++ wc1) lv [.ref q9] x.handlerPc) : KJ p l e R s m args below meth c cells slots Q D A nL ws lv st pc := by
  intro H locs ls hP hD hS hl
  obtain ⟨hx, hb, hml, hown, hts, hK, hA, hr0, hlks, hN⟩ := C
  have hP' := hP.perm hpm
  have hD' := hD.perm hpm
  have hPc : va_P D vwCl wc H := hP'.left
  have hDc : va_D A wc := hD'.left
  have hFc := va_free2 hDc hS hA
  obtain ⟨⟨c1, c2, c3⟩, c4, c5⟩ := cw
  have hcw : CallW R s args own y.cls index y bytes maxL rt (.code y bytes maxL rt :: lw_all) (kRc F L mc ms) mc ms n := ⟨callB_of n hts (k_goodIn c1) rfl rfl rfl (hts _ c2) (hts _ hlk) c3 hR, hts _ c4, hts _ c5⟩
  refine vx_callv (vx_runV (As := As) (rest := rest) ⟨hx, hb, hml, hown, hts⟩ (hM H.size) hcw ⟨fun a U g mk q => ⟨q.1, ⟨q.2.1.1, q.2.1.2.1, q.2.1.2.2.1, q.2.1.2.2.2.1, kN.same (u := U) rfl q.2.1.2.2.2.2⟩, kZ.same (u := U) rfl q.2.2⟩, va_recv hK hP X.1 hrv, fun U hU hW => ⟨rfl, ⟨by rw [hU], by rw [hU]; exact hPc, va_K.moved hW.alike hK, hDc.weaken (fun _ _ _ _ => trivial), hN.warm hW⟩, by rw [hU]; exact kZ.go hW hS hFc hZ⟩⟩ rfl hn hl.1 hst (lv_room hcat) hd0 hcs) hS (fun q _ h => hFc q h) hFc (fun q _ h => hFc q h) (fun E ce q9 u t H1 locs1 ht hv hpx hBX hz1 hk1 hS1 hce hcv hcl => ?_) (fun u t H1 locs1 ht hv hpost _ _ _ _ => hpost.elim)
  obtain ⟨rfl, hP1, hK1, hD1⟩ := hBX
  rw [ht] at hP1
  obtain ⟨hP2, hD2⟩ := k_joinP hP' hD' hk1 hFc hP1 hD1
  refine vx_catch hown pre x suf hsplit (fun z hz => ?_) hx0 h0 (hts _ hlink) ((hZ.2.2.2.2.2.1 _ hcast).use (k_castTab hcast)) hce hcv hcl (h q9 H1 locs1 ls hP2 hD2 hS1 hl)
  rcases hpass z hz with h | ⟨h1, nm, h2, h3⟩
  · exact Or.inl h
  · exact Or.inr ⟨h1, nm, hts _ h2, h3⟩
theorem kWi_of {S : Type} {y : MethodName} {code : ByteArray} {hh : List (Nat × Nat × Nat × Nat)} {F L mc ms : Nat} {av : List Value} {ws2 : S → va_W} {r : Int32} (hown : y.cls = own) (hlv : lv_args 0 av = lv) (hy : plainName y.cls = true) (hn : (lg_sl av).length ≤ nL) (body : ∀ (p : Program) (e : Env) (s : State) (m : MethodId) (args : Array Value) (below : List Frame) (meth : Method) (c : Code) (Q : State → Prop) (A : Nat → Prop), KC p s m args meth c code nL own (some .int) D tys A → kZ z A s s.heap → c.exceptionTable.toList = tableOf hh → (∀ (u : S) (lv2 : List (Nat × Value)) (pc k n : Nat), k ≤ mc → n ≤ ms → decode code pc = .ok (.ireturn, 1) → narrow .int (.int r) = .int r → KJ p l e (kRc F L mc ms) s m args below meth c k n Q D A nL (ws2 u) lv2 [.int r] pc) → KJ p l e (kRc F L mc ms) s m args below meth c 0 0 Q D A nL ws lv [] 0) : kWi l y code nL hh F L mc ms D tys z av ws r ws2 := by
  subst hown hlv
  intro sz
  refine MetFree.of_bodyS (code := code) (maxLocals := nL) (ret := some .int) hy ?_ ?_
  · intro args s m h hn
    obtain ⟨m9, meth, c, hn9, h1, h2, h3, h4, -, h5, h6, -⟩ := Cond.codeWith_spec (atoms_spec (ws := .codeWith y code nL (some .int) hh :: lw_all) h _ List.mem_cons_self)
    cases hn.symm.trans hn9
    exact ⟨meth, c, h1, h2, h3, h4, h5, h6⟩
  · intro p e s m args below meth c s₁ B hml hv _
    have hh0 : s₁.heap = s.heap := by rw [B.state]; rfl
    obtain ⟨rfl, ⟨hsz, hP, hK, hD0, hN⟩, hZ⟩ := hv
    subst hsz
    have hts := atoms_spec (ws := .codeWith y code nL (some .int) hh :: lw_all) B.pre
    have hl := lv_entry av (n := nL) hn
    have hb := body p e s m _ below meth c (MQ below (kQUi D tys s.heap.size ws r ws2) av.toArray s mc ms (va_A ws s.heap.size)) (va_A ws s.heap.size) ⟨B.exec, B.bytes, hml, findClass_of_methodNamed B.named, fun w h => hts w (List.mem_cons_of_mem _ h), hK, fun q h => Or.inr h, B.returns, B.notSynchronized, hN⟩ hZ (vx_table (x := y) B (hts _ List.mem_cons_self)) (fun u lv2 pc k n hk hn hd hnr => fun H locs ls hP hD hS hl => W.widen (k := mc) (n := ms) hk hn (W.zret B.exec B.bytes B.returns hnr (fun t ht hW => ⟨⟨_, u, rfl, rfl, by rw [ht]; exact hP, va_K.moved hW.alike hK, hD⟩, hS.F ht⟩) hS.2.2 hd B.notSynchronized)) s.heap [] _ hP hD0.self va_S.rf hl
    rw [← lg_entry_eq] at hb
    obtain ⟨t, a1, o, b1, b2, b3⟩ := hb s₁ hh0 (Stand.of_body B)
    exact ⟨t, o, a1, b1, b2, b3⟩
theorem kUv_ofI {S : Type} {y : MethodName} {code : ByteArray} {F L mc ms : Nat} {av : List Value} {ws2 : S → va_W} (hown : y.cls = own) (hnm : y.name = "<init>") (hlv : lv_args 0 av = lv) (hy : plainName y.cls = true) (hn : (lg_sl av).length ≤ nL) (body : ∀ (p : Program) (e : Env) (s : State) (m : MethodId) (args : Array Value) (below : List Frame) (meth : Method) (c : Code) (Q : State → Prop) (A : Nat → Prop), KC p s m args meth c code nL own none D tys A → kZ z A s s.heap → meth.name = "<init>" → (∀ (u : S) (lv2 : List (Nat × Value)) (pc k n : Nat), k ≤ mc → n ≤ ms → decode code pc = .ok (.return_, 1) → KJ p l e (kRc F L mc ms) s m args below meth c k n Q D A nL (ws2 u) lv2 [] pc) → KJ p l e (kRc F L mc ms) s m args below meth c 0 0 Q D A nL ws lv [] 0) : kUv l y code nL F L mc ms D tys z av ws ws2 := by
  subst hown hlv
  intro sz
  refine Met.ofW (cc := code) (maxL := nL) (ret := none) hy rfl ?_
  intro p e s m args below meth c s₁ B hml hv
  obtain ⟨rfl, ⟨hsz, hP, hK, hD0, hN⟩, hZ⟩ := hv
  subst hsz
  have hts := atoms_spec (ws := .code y code nL none :: lw_all) B.pre
  have hl := lv_entry av (n := nL) hn
  have hin : meth.name = "<init>" := ((name_of_methodNamed B.named B.method).1).trans hnm
  rw [lg_entry_eq]
  exact body p e s m _ below meth c _ _ ⟨B.exec, B.bytes, hml, findClass_of_methodNamed B.named, fun w h => hts w (List.mem_cons_of_mem _ h), hK, fun q h => Or.inr h, B.returns, B.notSynchronized, hN⟩ hZ hin (fun u lv2 pc k n hk hn hd => fun H locs ls hP hD hS hl => W.widen (k := mc) (n := ms) hk hn (W.vret B.exec B.bytes B.returns (fun t ht hW => ⟨⟨u, rfl, trivial, by rw [ht]; exact hP, va_K.moved hW.alike hK, hD⟩, hS.F ht⟩) hS.2.2 hd B.notSynchronized)) s.heap [] _ hP hD0.self va_S.rf hl
theorem k_new (C : KC p s m args meth c cc nL own ret D tys A) {ci N : Nat} {Cn : String} {T : u_T} {ty0 : Nat → FieldType} {index : Nat} {fs : List Value} (X : kCls ci Cn T N ty0) (hcl : Cond.classLink own index Cn ∈ lw_all) (hinst : Cond.instantiable Cn N ∈ lw_all) (hini : Cond.initialized Cn ∈ lw_all) (hfs : ∀ j, j < N → defaultValue (ty0 j) = vp_V fs j) (hcs : cells + 1 ≤ R.cells ∧ slots + N ≤ R.slots) (hd : decode cc pc = .ok (.new index, 3)) (h : ∀ q : Nat, KJ p l e R s m args below meth c (cells + 1) (slots + N) Q D A nL (ws ++ [(q, .inr (ci, fs))]) lv (.ref q :: st) (pc + 3)) : KJ p l e R s m args below meth c cells slots Q D A nL ws lv st pc := by
  intro H locs ls hP hD hS hl
  obtain ⟨hx, hb, hml, hown, hts, hK, hA, hr0, hlks, hN⟩ := C
  exact va_new hx hb hts X.2.1 ty0 X.2.2.1 hown (hts _ hcl) (hts _ hinst) (hts _ hini) hK hP hD hS hA X.1 hfs hcs.1 hcs.2 hd (fun q H1 hP1 hD1 hS1 => h q H1 locs ls hP1 hD1 hS1 hl)
theorem k_newI (C : KC p s m args meth c cc nL own ret D tys A) {n : Int32} {N t0 : Nat} {cI : ClassId} (ht : tys[t0]? = some (cI, .int)) (harr : Cond.arrayClass .int ∈ lw_all) (hn : ¬ n < 0) (hN : n.toNatClampNeg = N) (hb4 : N * 4 ≤ 536870912) (hcs : cells + 1 ≤ R.cells ∧ slots + N ≤ R.slots) (hd : decode cc pc = .ok (.newarray .int, 2)) (h : ∀ q : Nat, KJ p l e R s m args below meth c (cells + 1) (slots + N) Q D A nL (ws ++ [(q, iA cI N (fun _ => 0))]) lv (.ref q :: st) (pc + 2)) : KJ p l e R s m args below meth c cells slots Q D A nL ws lv (.int n :: st) pc := by
  intro H locs ls hP hD hS hl
  obtain ⟨hx, hb, hml, hown, hts, hK, hA, hr0, hlks, hNs⟩ := C
  refine va_newa (atype := .int) (ty := .int) (a0 := (N, .inl (fun _ => 0))) hx hb (hts _ harr) rfl hK hP hD hS hA (fun cA => rfl) hn hN (by show N * componentBytes .int ≤ _; exact hb4) hcs.1 hcs.2 hd (fun q cA H1 hK1 hP1 hD1 hS1 => ?_)
  have e : cA = cI := by
    have h1 : s.vm.findClass ("[" ++ (FieldType.int).toString) = some cI := (hK.2 t0 _ ht).2
    have h2 : s.vm.findClass ("[" ++ (FieldType.int).toString) = some cA := (hK1.2 tys.length (cA, .int) (by rw [List.getElem?_append_right (Nat.le_refl _), Nat.sub_self]; rfl)).2
    exact Option.some.inj (h2.symm.trans h1)
  subst e
  exact h q H1 locs ls hP1 hD1 hS1 hl
theorem k_newJ (C : KC p s m args meth c cc nL own ret D tys A) {n : Int32} {N t0 : Nat} {cJ : ClassId} (ht : tys[t0]? = some (cJ, .long)) (harr : Cond.arrayClass .long ∈ lw_all) (hn : ¬ n < 0) (hN : n.toNatClampNeg = N) (hb4 : N * 8 ≤ 536870912) (hcs : cells + 1 ≤ R.cells ∧ slots + N ≤ R.slots) (hd : decode cc pc = .ok (.newarray .long, 2)) (h : ∀ q : Nat, KJ p l e R s m args below meth c (cells + 1) (slots + N) Q D A nL (ws ++ [(q, jA cJ N (fun _ => 0))]) lv (.ref q :: st) (pc + 2)) : KJ p l e R s m args below meth c cells slots Q D A nL ws lv (.int n :: st) pc := by
  intro H locs ls hP hD hS hl
  obtain ⟨hx, hb, hml, hown, hts, hK, hA, hr0, hlks, hNs⟩ := C
  refine va_newa (atype := .long) (ty := .long) (a0 := (N, .inr (.inl (fun _ => 0)))) hx hb (hts _ harr) rfl hK hP hD hS hA (fun cA => rfl) hn hN (by show N * componentBytes .long ≤ _; exact hb4) hcs.1 hcs.2 hd (fun q cA H1 hK1 hP1 hD1 hS1 => ?_)
  have e : cA = cJ := by
    have h1 : s.vm.findClass ("[" ++ (FieldType.long).toString) = some cJ := (hK.2 t0 _ ht).2
    have h2 : s.vm.findClass ("[" ++ (FieldType.long).toString) = some cA := (hK1.2 tys.length (cA, .long) (by rw [List.getElem?_append_right (Nat.le_refl _), Nat.sub_self]; rfl)).2
    exact Option.some.inj (h2.symm.trans h1)
  subst e
  exact h q H1 locs ls hP1 hD1 hS1 hl
theorem k_newQ (C : KC p s m args meth c cc nL own ret D tys A) (hZ : kZ z A s s.heap) {n : Int32} {N t0 index : Nat} {cO : ClassId} (ht : tys[t0]? = some (cO, .object "ClimateChamber$State")) (hcl : Cond.classLink own index "ClimateChamber$State" ∈ lw_all) (hn : ¬ n < 0) (hN : n.toNatClampNeg = N) (hb4 : N * 4 ≤ 536870912) (hcs : cells + 1 ≤ R.cells ∧ slots + N ≤ R.slots) (hd : decode cc pc = .ok (.anewarray index, 3)) (h : ∀ q : Nat, KJ p l e R s m args below meth c (cells + 1) (slots + N) Q D A nL (ws ++ [(q, qA cO N (fun _ => none))]) lv (.ref q :: st) (pc + 3)) : KJ p l e R s m args below meth c cells slots Q D A nL ws lv (.int n :: st) pc := by
  intro H locs ls hP hD hS hl
  obtain ⟨hx, hb, hml, hown, hts, hK, hA, hr0, hlks, hNs⟩ := C
  refine va_newq hx hb hown (hts _ hcl) hZ.2.2.2.2.2.2.2 hK hP hD hS hA hn hN hb4 hcs.1 hcs.2 hd (fun q cA H1 hK1 hP1 hD1 hS1 => ?_)
  have e : cA = cO := by
    obtain ⟨k1, cm1, a1, a2, a3, a4⟩ := (hK.2 t0 _ ht).2
    obtain ⟨k2, cm2, b1, b2, b3, b4⟩ := (hK1.2 tys.length (cA, .object "ClimateChamber$State") (by rw [List.getElem?_append_right (Nat.le_refl _), Nat.sub_self]; rfl)).2
    exact Option.some.inj (b4.symm.trans a4)
  subst e
  exact h q H1 locs ls hP1 hD1 hS1 hl
theorem k_objInit (C : KC p s m args meth c cc nL own ret D tys A) {a index : Nat} (hlk : Cond.methodLink own index objectInit ∈ lw_all) (hin : Cond.instanceMethod objectInit ∈ lw_all) (hcd : Cond.code objectInit ⟨#[0xb1]⟩ 1 none ∈ lw_all) (hR : 1 ≤ R.frames ∧ (st.map fun v => v.category).sum + 12 ≤ R.locals) (hd : decode cc pc = .ok (.invokespecial index, 3)) (h : KJ p l e R s m args below meth c cells slots Q D A nL ws lv st (pc + 3)) : KJ p l e R s m args below meth c cells slots Q D A nL ws lv (.ref a :: st) pc := by
  intro H locs ls hP hD hS hl
  obtain ⟨hx, hb, hml, hown, hts, hK, hA, hr0, hlks, hNs⟩ := C
  exact W.objInit hx hb hown (hts _ hlk) (hts _ hin) (hts _ hcd) rfl (hl.1.trans hml.symm) rfl hd hR.1 (by show 2 * 0 + _ + 12 ≤ _; omega) (h H locs ls hP hD hS hl)
theorem k_putF (C : KC p s m args meth c cc nL own ret D tys A) (hin : meth.name = "<init>") {ci N : Nat} {Cn : String} {T : u_T} {ty0 : Nat → FieldType} (X : kCls ci Cn T N ty0) {index : Nat} {a : Nat} {fs : List Value} {v : Value} {ws2 : va_W} (k : Nat) (hk : k < N) (hfin : (T k).2.2.2 = true) (hdecl : (T k).1 = own) (hq : Cond.fieldLink own index (T k).1 (T k).2.1 (T k).2.2.1 ∈ lw_all) (hn : narrow (ty0 k) v = v) (hfit : fits (ty0 k) v = true) (q0 : Nat) (he : ws[q0]? = some (a, .inr (ci, fs))) (hl0 : k < fs.length) (hw : ws.set q0 (a, .inr (ci, fs.set k v)) = ws2) (hd : decode cc pc = .ok (.putfield index, 3)) (h : KJ p l e R s m args below meth c cells slots Q D A nL ws2 lv st (pc + 3)) : KJ p l e R s m args below meth c cells slots Q D A nL ws lv (v :: .ref a :: st) pc := by
  intro H locs ls hP hD hS hl
  obtain ⟨hx, hb, hml, hown, hts, hK, hA, hr, hlk, hN⟩ := C
  subst hw
  exact va_putF (D := D) hx hb hts X.2.1 ty0 X.2.2.1 X.2.2.2 hown hK hP hD hS q0 he X.1 k hk (hts _ hq) (fun _ h9 => h9) hfin hin hdecl (X.2.2.1 k hk) hn hfit hl0 hd (fun H1 locs1 hP1 hD1 hS1 => h H1 locs1 ls hP1 hD1 hS1 hl)
theorem k_clone0 (C : KC p s m args meth c cc nL own ret D tys A) (hZ : kZ z A s s.heap) {t0 index : Nat} {cI : ClassId} (ht : tys[t0]? = some (cI, .int)) (hlk : Cond.methodLink own index ⟨"[I", "clone", "()Ljava/lang/Object;"⟩ ∈ lw_all) (hsm : Cond.sameMethod "[I" "java/lang/Object" "clone" "()Ljava/lang/Object;" ∈ lw_all) (hnat : Cond.native ⟨"java/lang/Object", "clone", "()Ljava/lang/Object;"⟩ ∈ lw_all) (hinst : Cond.instanceMethod ⟨"java/lang/Object", "clone", "()Ljava/lang/Object;"⟩ ∈ lw_all) (hsel : Cond.selects "[I" ⟨"[I", "clone", "()Ljava/lang/Object;"⟩ ⟨"java/lang/Object", "clone", "()Ljava/lang/Object;"⟩ ∈ lw_all) (hcast : Cond.castable "[I" "java/lang/Cloneable" ∈ lw_cast) (hR : 1 ≤ R.frames ∧ (st.map fun v => v.category).sum + 14 ≤ R.locals ∧ cells + 1 ≤ R.cells ∧ slots + 12 ≤ R.slots) (hd : decode cc pc = .ok (.invokevirtual index, 3)) (h : ∀ q : Nat, KJ p l e R s m args below meth c (cells + 1) (slots + 12) Q D A nL (ws ++ [(q, iA cI 12 zI)]) lv (.ref q :: st) (pc + 3)) : KJ p l e R s m args below meth c cells slots Q D A nL ws lv (.ref z.1 :: st) pc := by
  intro H locs ls hP hD hS hl
  obtain ⟨hx, hb, hml, hown, hts, hK, hA, hr0, hlks, hNs⟩ := C
  obtain ⟨cell, g1, g2, g3, g4, g5, g6, g7⟩ := hZ.2.2.2.2.2.2.1
  have hcls : cell.cls = cI := k_class hK ht g6
  have hcell : ({ cls := cell.cls, slots := cell.slots } : Cell) = vp_cell cI (12, .inl zI) := k_rowCell hcls g4 g5
  have hH : H[z.1]? = some cell := by rw [hS.2.1 z.1 (Array.getElem?_eq_some_iff.mp g1).1 g7]; exact g1
  obtain ⟨c0, t0', f1, f2, f3⟩ := Cond.castable_spec ((hZ.2.2.2.2.2.1 _ hcast).use (A := args) rfl)
  have e0 : c0 = cI := k_class hK ht f1
  subst e0
  obtain ⟨-, kS, hkS, compS, hkindS⟩ := (hK.2 t0 _ ht).1 0 (fun _ => .null)
  intro T hT Y
  obtain ⟨-, kA, hkA, comp, hkind⟩ := State.isArrayOf_alike Y.warmed.alike ((hK.2 t0 _ ht).1 0 (fun _ => .null))
  obtain ⟨vm', Y', st'⟩ := Y.cloneArray hx hown (hts _ hlk) (hts _ hsm) (hts _ hnat) (hts _ hinst) (hts _ hsel) (a := z.1) (cell := cell) (by rw [hT]; exact hH) g3 g2 g6 f2 (by rw [hcls]; exact f3)
    (fun i v hv => by
      have hi : i < 12 := by rw [← g4]; exact (Array.getElem?_eq_some_iff.mp hv).1
      have hv2 := (hv.symm.trans (g5 i hi))
      cases hv2
      rw [hcls]
      have hk' : T.vm.classes[c0]? = some kA := hkA
      simp [State.fitsSlot, State.slotType?, hk', hkind, fits])
    (g := F0 m pc ls (.ref z.1 :: st)) rfl (hl.1.trans hml.symm) rfl (by rw [hb]; exact hd) hR.1 (by show 2 * 0 + _ + 14 ≤ _; have := hR.2.1; omega) hR.2.2.1 (by rw [g4]; exact hR.2.2.2) (hloader := by rw [hcls]; exact Vm.clonesLoader_of_array hkS hkindS)
  rw [hcell, g4] at Y'
  rw [hcell] at st'
  generalize hH1 : H.push (vp_cell c0 (12, .inl zI)) = H1
  have z1 : H1.size = H.size + 1 := by rw [← hH1, Array.size_push]
  have e1 : H1[H.size]? = some (vp_cell c0 (12, .inl zI)) := by rw [← hH1, Array.getElem?_push_size]
  have o1 : ∀ q : Nat, q < H.size → H1[q]? = H[q]? := fun q hq => by rw [← hH1, Array.getElem?_push, if_neg (Nat.ne_of_lt hq)]
  have hP1 : va_P D vwCl (ws ++ [(H.size, iA c0 12 zI)]) H1 := (hP.kept (fun k y hy => o1 y.1 ((hP k y hy).lt))).app (fun k y hy => by
    have hz : k < 1 := (List.getElem?_eq_some_iff.mp hy).1
    rw [show k = 0 by omega] at hy
    cases hy
    exact e1)
  obtain ⟨t, b1, b2⟩ := h H.size H1 locs ls hP1 (hD.push hP rfl (hA _ hS.1)) ⟨Nat.le_trans hS.1 (by omega), fun x h1 h2 => (o1 x (Nat.lt_of_lt_of_le h1 hS.1)).trans (hS.2.1 x h1 h2), hS.2.2⟩ hl _ (by show T.heap.push _ = H1; rw [hT]; exact hH1) Y'
  rw [hT] at st'
  exact ⟨t, st' _ b1, b2⟩
theorem k_castI (C : KC p s m args meth c cc nL own ret D tys A) {a index q0 t0 : Nat} {cI : ClassId} {x : vp_A} (ht : tys[t0]? = some (cI, .int)) (hcl : Cond.classLink own index "[I" ∈ lw_all) (ha : ws[q0]? = some (a, .inl (cI, x))) (hd : decode cc pc = .ok (.checkcast index, 3)) (h : KJ p l e R s m args below meth c cells slots Q D A nL ws lv (.ref a :: st) (pc + 3)) : KJ p l e R s m args below meth c cells slots Q D A nL ws lv (.ref a :: st) pc := by
  intro H locs ls hP hD hS hl
  obtain ⟨hx, hb, hml, hown, hts, hK, hA, hr0, hlks, hNs⟩ := C
  have h1 : s.vm.findClass ("[" ++ (FieldType.int).toString) = some cI := (hK.2 t0 _ ht).2
  have h2 : ("[" ++ (FieldType.int).toString) = "[I" := by decide +kernel
  rw [h2] at h1
  exact va_castA hx hb hown (hts _ hcl) hP q0 ha h1 hd (h H locs ls hP hD hS hl)
theorem k_aldq (C : KC p s m args meth c cc nL own ret D tys A) {cO : ClassId} {a n : Nat} {f : Nat → Option Nat} {i : Int32} {v : Value} (q0 t0 : Nat) (ha : ws[q0]? = some (a, qA cO n f)) (ht : tys[t0]? = some (cO, .object "ClimateChamber$State")) (hin : vp_in i n) (hv : va_rf (f i.toNatClampNeg) = v) (hd : decode cc pc = .ok (.aaload, 1)) (h : KJ p l e R s m args below meth c cells slots Q D A nL ws lv (v :: st) (pc + 1)) : KJ p l e R s m args below meth c cells slots Q D A nL ws lv (.int i :: .ref a :: st) pc := fun H locs ls hP hD hS hl => va_aldq C.1 C.2.1 C.2.2.2.2.2.1 hP q0 t0 ha ht hin hd (by rw [hv]; exact h H locs ls hP hD hS hl)
theorem k_astq (C : KC p s m args meth c cc nL own ret D tys A) {cO : ClassId} {a n v ci : Nat} {f : Nat → Option Nat} {i : Int32} {vs : List Value} {ws2 : va_W} (q0 t0 qk : Nat) {T0 : u_T} {N : Nat} {ty0 : Nat → FieldType} (X : kCls ci "ClimateChamber$State" T0 N ty0) (ha : ws[q0]? = some (a, qA cO n f)) (ht : tys[t0]? = some (cO, .object "ClimateChamber$State")) (hv : ws[qk]? = some (v, .inr (ci, vs))) (hin : vp_in i n) (hw : ws.set q0 (a, qA cO n (va_up f i.toNatClampNeg (some v))) = ws2) (hd : decode cc pc = .ok (.aastore, 1)) (h : KJ p l e R s m args below meth c cells slots Q D A nL ws2 lv st (pc + 1)) : KJ p l e R s m args below meth c cells slots Q D A nL ws lv (.ref v :: .int i :: .ref a :: st) pc := by
  intro H locs ls hP hD hS hl
  subst hw
  exact va_astq C.1 C.2.1 C.2.2.2.2.2.1 hP hD hS q0 t0 qk ci ha (r := ("ClimateChamber$State", T0, N)) ht hv X.1 hin hd (fun H1 locs1 hP1 hD1 hS1 => h H1 locs1 ls hP1 hD1 hS1 hl)
theorem k_null (C : KC p s m args meth c cc nL own ret D tys A) (hd : decode cc pc = .ok (.aconst_null, 1)) (h : KJ p l e R s m args below meth c cells slots Q D A nL ws lv (.null :: st) (pc + 1)) : KJ p l e R s m args below meth c cells slots Q D A nL ws lv st pc := fun H locs ls hP hD hS hl => lv_null C.1 C.2.1 hd (h H locs ls hP hD hS hl)
theorem k_ifnonnull (C : KC p s m args meth c cc nL own ret D tys A) {x : Nat} {off : Int} {tgt : Nat} (hd : decode cc pc = .ok (.ifnonnull off, 3)) (ht : (pc : Int) + off = (tgt : Int)) (h : KJ p l e R s m args below meth c cells slots Q D A nL ws lv st tgt) : KJ p l e R s m args below meth c cells slots Q D A nL ws lv (.ref x :: st) pc := fun H locs ls hP hD hS hl => lv_ifnonnull C.1 C.2.1 hd ht (h H locs ls hP hD hS hl)
theorem k_ifnonnullN (C : KC p s m args meth c cc nL own ret D tys A) {off : Int} (hd : decode cc pc = .ok (.ifnonnull off, 3)) (h : KJ p l e R s m args below meth c cells slots Q D A nL ws lv st (pc + 3)) : KJ p l e R s m args below meth c cells slots Q D A nL ws lv (.null :: st) pc := fun H locs ls hP hD hS hl => lv_ifnonnullN C.1 C.2.1 hd (h H locs ls hP hD hS hl)
theorem k_aload_nN (C : KC p s m args meth c cc nL own ret D tys A) {zz : Fin 4} {i : Nat} (hz : (zz : Nat) = i) (k : Nat) (hk : lv[k]? = some (i, .null)) (hd : decode cc pc = .ok (.aload_n zz, 1)) (h : KJ p l e R s m args below meth c cells slots Q D A nL ws lv (.null :: st) (pc + 1)) : KJ p l e R s m args below meth c cells slots Q D A nL ws lv st pc := fun H locs ls hP hD hS hl => lv_aload_nN C.1 C.2.1 hd hz (lv_at hl k hk) (h H locs ls hP hD hS hl)
theorem k_astore_nN (C : KC p s m args meth c cc nL own ret D tys A) {zz : Fin 4} {i : Nat} {lv2 : List (Nat × Value)} (hz : (zz : Nat) = i) (hn : i < nL) (hl2 : (i, Value.null) :: lv.filter (fun q => !(q.1 == i) && !(q.1 + 1 == i && q.2.category == 2)) = lv2) (hd : decode cc pc = .ok (.astore_n zz, 1)) (h : KJ p l e R s m args below meth c cells slots Q D A nL ws lv2 st (pc + 1)) : KJ p l e R s m args below meth c cells slots Q D A nL ws lv (.null :: st) pc := fun H locs ls hP hD hS hl => lv_astore_nN C.1 C.2.1 hd hz hl hn hl2 (fun ls2 hl3 => h H locs ls2 hP hD hS hl3)
end ZROW
