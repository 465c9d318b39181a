/-! beside KC: what is castable, the static rows, the texts -/
def k_isCast : Cond → Bool
  | .castable .. | .declares .. => true
  | _ => false
def lw_cast : List Cond := lw_tbl.filter k_isCast
theorem kqc {w : Cond} (i : Nat) (h : lw_tbl[i]? = some w) (g : k_isCast w = true) : w ∈ lw_cast := List.mem_filter.mpr ⟨List.mem_of_getElem? h, g⟩
theorem k_castTab {w : Cond} (h : w ∈ lw_cast) : w.onTables = true := by
  have g := (List.mem_filter.mp h).2
  cases w <;> first | rfl | (simp [k_isCast] at g)
def kCst (U : State) : Prop := ∀ w ∈ lw_cast, va_Nw w U
theorem kCst.warm {s U : State} (hW : s.WarmedH U.vm) (h : kCst s) : kCst U := by
  intro w hw
  have g := (List.mem_filter.mp hw).2
  cases w <;> first | exact va_Nw.warmC hW (h _ hw) | exact va_Nw.warmD hW (h _ hw) | (simp [k_isCast] at g)
theorem kCst.same {u U : State} (hvm : u.vm = U.vm) (h : kCst u) : kCst U := fun w hw => (h w hw).same (k_castTab hw) hvm
theorem kCst.of {args : Array Value} {U : State} (h : ∀ w ∈ lw_tbl, w.before args U = true) : kCst U := fun w hw => va_Nw.of (k_castTab hw) (h w (List.mem_filter.mp hw).1)
def zI : Nat → Int32
  | 0 => 20 | 1 => 15 | 2 => 10 | 3 => 10 | 4 => 2 | 5 => 3 | 6 => 5 | 7 => 20 | 8 => 3 | 9 => 200 | 10 => 400 | _ => 60
def zL : Nat → Int32
  | 0 => 1 | 1 => 1 | 2 => 1 | 3 => 1 | 4 => 0 | 5 => 0 | 6 => 0 | 7 => 0 | 8 => 0 | 9 => -200 | 10 => 0 | _ => 0
def zG : Nat → Int32
  | 0 => 50 | 1 => 50 | 2 => 50 | 3 => 50 | 4 => 20 | 5 => 20 | 6 => 100 | 7 => 200 | 8 => 30 | 9 => 500 | 10 => 1000 | _ => 1000
/-- a static row that is cloned: what it is to the last -/
def kTz (t : Nat) (A : Nat → Prop) (U : State) (H : Heap) : Prop := ∃ cell : Cell, H[t]? = some cell ∧ cell.vm ≠ .unknown ∧ (∀ k, cell.vm ≠ .statics k) ∧ cell.slots.size = 12 ∧ (∀ j : Nat, j < 12 → cell.slots[j]? = some (.int (zI j))) ∧ U.vm.findClass "[I" = some cell.cls ∧ ¬ A t
theorem kTz.moved {t : Nat} {A : Nat → Prop} {u U : State} {H : Heap} (hv : u.vm.Alike U.vm) (h : kTz t A u H) : kTz t A U H := by
  obtain ⟨c, h1, h2, h3, h4, h5, h6, h7⟩ := h
  exact ⟨c, h1, h2, h3, h4, h5, by rw [hv.findClass]; exact h6, h7⟩
theorem kTz.kept {t : Nat} {A : Nat → Prop} {U : State} {H H1 : Heap} (h : kTz t A U H) (hq : ∀ a : Nat, a < H.size → ¬ A a → H1[a]? = H[a]?) : kTz t A U H1 := by
  obtain ⟨c, h1, h2, h3, h4, h5, h6, h7⟩ := h
  exact ⟨c, by rw [hq t (Array.getElem?_eq_some_iff.mp h1).1 h7]; exact h1, h2, h3, h4, h5, h6, h7⟩
theorem kTz.narrow {t : Nat} {A B : Nat → Prop} {U : State} {H : Heap} (h : kTz t A U H) (hAB : ∀ q, B q → A q) : kTz t B U H := by
  obtain ⟨c, h1, h2, h3, h4, h5, h6, h7⟩ := h
  exact ⟨c, h1, h2, h3, h4, h5, h6, fun z => h7 (hAB _ z)⟩
abbrev kIOE : String := "java/lang/IndexOutOfBoundsException"
abbrev kIAE : String := "java/lang/IllegalArgumentException"
abbrev kISE : String := "java/lang/IllegalStateException"
/-- z: where the three static rows lie, and the three texts -/
abbrev zT : Type := Nat × Nat × Nat × Nat × Nat × Nat
def kZ (z : zT) (A : Nat → Prop) (U : State) (H : Heap) : Prop :=
  (va_Z RX10 "INITIAL_SETTINGS" "[I" (.ref z.1) A U H ∧ va_Z RX10 "LEAST_SETTINGS" "[I" (.ref z.2.1) A U H ∧ va_Z RX10 "GREATEST_SETTINGS" "[I" (.ref z.2.2.1) A U H) ∧
  (va_T .int z.1 12 (fun k => .int (zI k)) A U H ∧ va_T .int z.2.1 12 (fun k => .int (zL k)) A U H ∧ va_T .int z.2.2.1 12 (fun k => .int (zG k)) A U H) ∧
  (vx_Zq Bundle.tN "UNASSIGNED_STACK" Bundle.steD A U H ∧ vx_Zq Bundle.tN "SUPPRESSED_SENTINEL" Bundle.listD A U H) ∧
  (vk_R RX10 262 "there is no such index" z.2.2.2.1 U ∧ vk_R RX10 269 "an argument is out of range" z.2.2.2.2.1 U ∧ vk_R RX10 274 "the call is not allowed now" z.2.2.2.2.2 U) ∧
  (va_Nc kIAE kIOE U ∧ va_Nc kISE kIOE U ∧ va_Nc kISE kIAE U) ∧ kCst U ∧ kTz z.1 A U H ∧ va_AO "ClimateChamber$State" U
theorem kZ.go {z : zT} {A B : Nat → Prop} {s U : State} {H : Heap} {locs : List Loc} (hW : s.WarmedH U.vm) (hS : va_S A s.heap H locs) (hAB : ∀ q, B q → A q) (h : kZ z A s s.heap) : kZ z B U H := by
  obtain ⟨⟨a1, a2, a3⟩, ⟨b1, b2, b3⟩, ⟨c1, c2⟩, ⟨d1, d2, d3⟩, ⟨e1, e2, e3⟩, f, g, ao⟩ := h
  have hv := hW.alike
  exact ⟨⟨((va_Z.moved hv a1).kept hS.2.1).narrow hAB, ((va_Z.moved hv a2).kept hS.2.1).narrow hAB, ((va_Z.moved hv a3).kept hS.2.1).narrow hAB⟩,
    ⟨((va_T.moved hv b1).kept hS.2.1).narrow hAB, ((va_T.moved hv b2).kept hS.2.1).narrow hAB, ((va_T.moved hv b3).kept hS.2.1).narrow hAB⟩,
    ⟨((vx_Zq.moved hv c1).kept hS.2.1).narrow hAB, ((vx_Zq.moved hv c2).kept hS.2.1).narrow hAB⟩,
    ⟨vk_R.warm hW d1, vk_R.warm hW d2, vk_R.warm hW d3⟩, ⟨va_Nc.moved hv e1, va_Nc.moved hv e2, va_Nc.moved hv e3⟩, f.warm hW, ((kTz.moved hv g).kept hS.2.1).narrow hAB, va_AO.moved hv ao⟩
theorem kZ.same {z : zT} {A : Nat → Prop} {u U : State} {H : Heap} (hvm : u.vm = U.vm) (h : kZ z A u H) : kZ z A U H := by
  obtain ⟨⟨a1, a2, a3⟩, ⟨b1, b2, b3⟩, ⟨c1, c2⟩, ⟨d1, d2, d3⟩, ⟨e1, e2, e3⟩, f, g, ao⟩ := h
  have hv : u.vm.Alike U.vm := by rw [hvm]; exact Vm.Alike.refl U.vm
  exact ⟨⟨va_Z.moved hv a1, va_Z.moved hv a2, va_Z.moved hv a3⟩, ⟨va_T.moved hv b1, va_T.moved hv b2, va_T.moved hv b3⟩, ⟨vx_Zq.moved hv c1, vx_Zq.moved hv c2⟩,
    ⟨vk_R.same hvm.symm d1, vk_R.same hvm.symm d2, vk_R.same hvm.symm d3⟩, ⟨va_Nc.moved hv e1, va_Nc.moved hv e2, va_Nc.moved hv e3⟩, f.same hvm, kTz.moved hv g, va_AO.moved hv ao⟩
theorem kZ.sub {z : zT} {A B : Nat → Prop} {U : State} {H : Heap} (hAB : ∀ q, B q → A q) (h : kZ z A U H) : kZ z B U H := by
  obtain ⟨⟨a1, a2, a3⟩, ⟨b1, b2, b3⟩, ⟨c1, c2⟩, d, e, f, g, ao⟩ := h
  exact ⟨⟨a1.narrow hAB, a2.narrow hAB, a3.narrow hAB⟩, ⟨b1.narrow hAB, b2.narrow hAB, b3.narrow hAB⟩, ⟨c1.narrow hAB, c2.narrow hAB⟩, d, e, f, g.narrow hAB, ao⟩
/-! worlds put in another order, worlds with a tail -/
theorem va_P.perm {D : va_G} {cl : List vw_C} {ws ws2 : va_W} {H : Heap} (hp : ws.Perm ws2) (h : va_P D cl ws H) : va_P D cl ws2 H := by
  intro k q hk
  obtain ⟨j, hj⟩ := List.getElem?_of_mem (hp.mem_iff.mpr (List.mem_of_getElem? hk))
  exact h j q hj
theorem va_D.nd {A : Nat → Prop} {ws : va_W} : va_D A ws ↔ ((ws.map (fun q => q.1)).Nodup ∧ ∀ q ∈ ws, A q.1) := by
  constructor
  · intro h
    refine ⟨List.pairwise_iff_getElem.mpr fun i j hi hj hij => ?_, fun q hq => ?_⟩
    · intro e
      have hl : j < ws.length := by simpa using hj
      have hi' : i < ws.length := by simpa using hi
      rw [List.getElem_map, List.getElem_map] at e
      exact absurd (h.1 i j _ _ (List.getElem?_eq_getElem hi') (List.getElem?_eq_getElem hl) e) (Nat.ne_of_lt hij)
    · obtain ⟨k, hk⟩ := List.getElem?_of_mem hq
      exact h.2 k q hk
  · intro h
    refine ⟨fun i j x y hx hy hxy => ?_, fun k q hk => h.2 q (List.mem_of_getElem? hk)⟩
    have key : ∀ (i j : Nat) (x y : Nat × va_E), i < j → ws[i]? = some x → ws[j]? = some y → x.1 = y.1 → False := by
      intro i j x y hij hx hy hxy
      obtain ⟨hi, ei⟩ := List.getElem?_eq_some_iff.mp hx
      obtain ⟨hj, ej⟩ := List.getElem?_eq_some_iff.mp hy
      have h2 := List.pairwise_iff_getElem.mp h.1 i j (by simpa using hi) (by simpa using hj) hij
      rw [List.getElem_map, List.getElem_map, ei, ej] at h2
      exact h2 hxy
    rcases Nat.lt_trichotomy i j with q | q | q
    · exact (key i j x y q hx hy hxy).elim
    · exact q
    · exact (key j i y x q hy hx hxy.symm).elim
theorem va_D.perm {A : Nat → Prop} {ws ws2 : va_W} (hp : ws.Perm ws2) (h : va_D A ws) : va_D A ws2 := by
  rw [va_D.nd] at h ⊢
  exact ⟨(hp.map _).nodup_iff.mp h.1, fun q hq => h.2 q (hp.mem_iff.mpr hq)⟩
theorem va_A.perm {ws ws2 : va_W} {sz : Nat} (hp : ws.Perm ws2) (q : Nat) (h : va_A ws sz q) : va_A ws2 sz q := by
  rcases h with ⟨k, e, hk⟩ | h
  · obtain ⟨j, hj⟩ := List.getElem?_of_mem (hp.mem_iff.mp (List.mem_of_getElem? hk))
    exact Or.inl ⟨j, e, hj⟩
  · exact Or.inr h
theorem kmap_app {hd T wc : va_W} {isC : List Nat} (h : isC.map (fun i => hd[i]?) = wc.map some) : isC.map (fun i => (hd ++ T)[i]?) = wc.map some := by
  rw [← h]
  refine List.map_congr_left fun i hi => ?_
  have : (isC.map (fun i => hd[i]?)).all Option.isSome = true := by rw [h]; simp
  have h2 := List.all_eq_true.mp this _ (List.mem_map.mpr ⟨i, hi, rfl⟩)
  cases e : hd[i]? with
  | none => rw [e] at h2; cases h2
  | some x => rw [List.getElem?_append_left (List.getElem?_eq_some_iff.mp e).1, e]
theorem kputL_no (is : List Nat) (cs : va_W) : ∀ (T : va_W) (k : Nat), (∀ i ∈ is, i < k) → kputL is cs T k = T
  | [], _, _ => rfl
  | x :: xs, k, h => by
    show kfind k x is cs :: kputL is cs xs (k + 1) = x :: xs
    rw [kputL_no is cs xs (k + 1) (fun i hi => Nat.lt_succ_of_lt (h i hi))]
    have : ∀ (is : List Nat) (cs : va_W), (∀ i ∈ is, i < k) → kfind k x is cs = x := by
      intro is
      induction is with
      | nil => intro cs _; cases cs <;> rfl
      | cons i is ih =>
        intro cs h
        cases cs with
        | nil => rfl
        | cons c cs =>
          show (bif Nat.beq i k then c else kfind k x is cs) = x
          have hne : Nat.beq i k = false := by
            cases hb : Nat.beq i k
            · rfl
            · have := Nat.eq_of_beq_eq_true hb
              have h2 := h i List.mem_cons_self
              omega
          rw [hne]
          exact ih cs (fun j hj => h j (List.mem_cons_of_mem _ hj))
    rw [this is cs h]
theorem kputL_app (is : List Nat) (cs T : va_W) : ∀ (hd : va_W) (k : Nat), (∀ i ∈ is, i < k + hd.length) → kputL is cs (hd ++ T) k = kputL is cs hd k ++ T
  | [], k, h => by
    show kputL is cs T k = T
    exact kputL_no is cs T k (fun i hi => by simpa using h i hi)
  | x :: xs, k, h => by
    show kfind k x is cs :: kputL is cs (xs ++ T) (k + 1) = kfind k x is cs :: (kputL is cs xs (k + 1) ++ T)
    rw [kputL_app is cs T xs (k + 1) (fun i hi => by have := h i hi; simp at this; omega)]
theorem kput_app {hd hd2 T wc wc2 : va_W} {isC : List Nat} (hC : isC.map (fun i => hd[i]?) = wc.map some) (h : kput hd isC wc2 = hd2) : kput (hd ++ T) isC wc2 = hd2 ++ T := by
  unfold kput at h ⊢
  rw [kputL_app isC wc2 T hd 0 (fun i hi => ?_), h]
  have : (isC.map (fun i => hd[i]?)).all Option.isSome = true := by rw [hC]; simp
  have h2 := List.all_eq_true.mp this _ (List.mem_map.mpr ⟨i, hi, rfl⟩)
  cases e : hd[i]? with
  | none => rw [e] at h2; cases h2
  | some x => rw [Nat.zero_add]; exact (List.getElem?_eq_some_iff.mp e).1
theorem k_pick {hd wc wr : va_W} {isC isR : List Nat} (hC : isC.map (fun i => hd[i]?) = wc.map some) (hR : isR.map (fun i => hd[i]?) = wr.map some) (hper : (isC ++ isR).Perm (List.range hd.length)) : hd.Perm (wc ++ wr) := by
  have h1 : (isC ++ isR).map (fun i => hd[i]?) = (wc ++ wr).map some := by rw [List.map_append, List.map_append, hC, hR]
  have h2 : (List.range hd.length).map (fun i => hd[i]?) = hd.map some := by
    refine List.ext_getElem? fun i => ?_
    rw [List.getElem?_map, List.getElem?_map]
    by_cases hi : i < hd.length
    · rw [List.getElem?_range hi, List.getElem?_eq_getElem hi]
      show some (hd[i]?) = _
      rw [List.getElem?_eq_getElem hi]; rfl
    · rw [List.getElem?_eq_none (by simpa using hi), List.getElem?_eq_none (by omega)]; rfl
  have h3 := (hper.map (fun i => hd[i]?)).symm
  rw [h1, h2] at h3
  have h4 := h3.filterMap (fun x => x)
  have e : ∀ l : va_W, (l.map some).filterMap (fun x => x) = l := by
    intro l
    induction l with
    | nil => rfl
    | cons x xs ih => show x :: (xs.map some).filterMap (fun x => x) = x :: xs; rw [ih]
  rw [e, e] at h4
  exact h4
theorem k_tailPerm {hd wc wr T : va_W} (h : hd.Perm (wc ++ wr)) : (hd ++ T).Perm ((wc ++ T) ++ wr) := by
  refine (h.append_right T).trans ?_
  rw [List.append_assoc, List.append_assoc]
  exact (List.perm_append_comm).append_left wc
theorem va_P.left {D : va_G} {cl : List vw_C} {a b : va_W} {H : Heap} (h : va_P D cl (a ++ b) H) : va_P D cl a H := fun k q hk => h k q (by rw [List.getElem?_append_left (List.getElem?_eq_some_iff.mp hk).1]; exact hk)
theorem va_D.left {A : Nat → Prop} {a b : va_W} (h : va_D A (a ++ b)) : va_D A a := by
  rw [va_D.nd] at h ⊢
  rw [List.map_append] at h
  exact ⟨(List.nodup_append.mp h.1).1, fun q hq => h.2 q (List.mem_append_left _ hq)⟩
/-- behind a call, in any order: the callee's new world, and the caller's other cells -/
theorem k_joinP {A0 : Nat → Prop} {D : va_G} {wc wr w1 : va_W} {H H1 : Heap} (hP : va_P D vwCl (wc ++ wr) H) (hD : va_D A0 (wc ++ wr))
    (hk : ∀ q : Nat, q < H.size → ¬ va_A wc H.size q → H1[q]? = H[q]?) (hF : ∀ q, va_A wc H.size q → A0 q) (hP1 : va_P D vwCl w1 H1) (hD1 : va_D (va_A wc H.size) w1) : va_P D vwCl (wr ++ w1) H1 ∧ va_D A0 (wr ++ w1) := by
  have hap : ∀ q ∈ wr, ¬ va_A wc H.size q.1 := by
    intro q hq hA
    obtain ⟨k, hk2⟩ := List.getElem?_of_mem hq
    have hk3 : (wc ++ wr)[wc.length + k]? = some q := by rw [List.getElem?_append_right (by omega), Nat.add_sub_cancel_left]; exact hk2
    rcases hA with ⟨j, e, hj⟩ | h
    · have hj2 : (wc ++ wr)[j]? = some (q.1, e) := by rw [List.getElem?_append_left (List.getElem?_eq_some_iff.mp hj).1]; exact hj
      have h4 := hD.1 j (wc.length + k) _ _ hj2 hk3 rfl
      have := (List.getElem?_eq_some_iff.mp hj).1
      omega
    · have := (hP _ q hk3).lt
      omega
  have hPr : va_P D vwCl wr H1 := by
    intro k q hk2
    have hk3 : (wc ++ wr)[wc.length + k]? = some q := by rw [List.getElem?_append_right (by omega), Nat.add_sub_cancel_left]; exact hk2
    have h5 := hP _ q hk3
    exact h5.kept (hk q.1 h5.lt (hap q (List.mem_of_getElem? hk2)))
  rw [va_D.nd] at hD hD1
  refine ⟨hPr.app hP1, va_D.nd.mpr ⟨?_, fun q hq => ?_⟩⟩
  · rw [List.map_append] at hD ⊢
    refine List.nodup_append.mpr ⟨(List.nodup_append.mp hD.1).2.1, hD1.1, fun a ha b hb e => ?_⟩
    obtain ⟨x, hx, rfl⟩ := List.mem_map.mp ha
    obtain ⟨y, hy, rfl⟩ := List.mem_map.mp hb
    have := hD1.2 y hy
    rw [← e] at this
    exact hap x hx this
  · rcases List.mem_append.mp hq with h | h
    · exact hD.2 q (List.mem_append_right _ h)
    · exact hF _ (hD1.2 q h)
theorem va_free2 {A0 : Nat → Prop} {wc : va_W} {H0 H : Heap} {locs : List Loc} (hD : va_D A0 wc) (hS : va_S A0 H0 H locs) (hA : ∀ q, H0.size ≤ q → A0 q) : ∀ q, va_A wc H.size q → A0 q := by
  intro q h
  rcases h with ⟨k, e, hk⟩ | h
  · exact hD.2 k _ hk
  · exact hA q (Nat.le_trans hS.1 h)

/-! contracts of methods that make cells: the world behind them is one of a family -/
def kRc (F L mc ms : Nat) : Room := { frames := F, cells := mc, slots := ms, locals := L }
def kPz (D : va_G) (tys : List (ClassId × FieldType)) (sz : Nat) (ws : va_W) (z : zT) : State → Prop := fun U => kPc D tys sz ws U ∧ kZ z (va_A ws sz) U U.heap
abbrev kQUi {S : Type} (D : va_G) (tys : List (ClassId × FieldType)) (sz : Nat) (ws : va_W) (r : Int32) (ws' : S → va_W) := va_Qi (fun (r' : Int32) (_ : S) => r' = r) (fun u => kB D tys (ws' u) (va_A ws sz)) (va_A ws sz)
abbrev kQUv {S : Type} (D : va_G) (tys : List (ClassId × FieldType)) (sz : Nat) (ws : va_W) (ws' : S → va_W) := va_Qv (fun (_ : S) => True) (fun u => kB D tys (ws' u) (va_A ws sz)) (va_A ws sz)
def kUi {S : Type} (l : Launch) (y : MethodName) (code : ByteArray) (nL : Nat) (rt : FieldType) (F L mc ms : Nat) (D : va_G) (tys : List (ClassId × FieldType)) (z : zT) (av : List Value) (ws : va_W) (r : Int32) (ws' : S → va_W) : Prop :=
  ∀ sz : Nat, Met l y (.code y code nL (some rt) :: lw_all) (kRc F L mc ms) (va_Pc av (kPz D tys sz ws z)) (kQUi D tys sz ws r ws') mc ms (va_A ws sz)
def kUv {S : Type} (l : Launch) (y : MethodName) (code : ByteArray) (nL : Nat) (F L mc ms : Nat) (D : va_G) (tys : List (ClassId × FieldType)) (z : zT) (av : List Value) (ws : va_W) (ws' : S → va_W) : Prop :=
  ∀ sz : Nat, Met l y (.code y code nL none :: lw_all) (kRc F L mc ms) (va_Pc av (kPz D tys sz ws z)) (kQUv D tys sz ws ws') mc ms (va_A ws sz)
/-- a method with handlers of its own -/
def kWi {S : Type} (l : Launch) (y : MethodName) (code : ByteArray) (nL : Nat) (hh : List (Nat × Nat × Nat × Nat)) (F L mc ms : Nat) (D : va_G) (tys : List (ClassId × FieldType)) (z : zT) (av : List Value) (ws : va_W) (r : Int32) (ws' : S → va_W) : Prop :=
  ∀ sz : Nat, Met l y (.codeWith y code nL (some .int) hh :: lw_all) (kRc F L mc ms) (va_Pc av (kPz D tys sz ws z)) (kQUi D tys sz ws r ws') mc ms (va_A ws sz)
/-- a method that throws here: what, the world as it was -/
abbrev kXQc (ws : va_W) (sz : Nat) : Array Value → State → Outcome → State → Prop := va_Qv (fun (_ : Unit) => False) (fun _ _ => True) (va_A ws sz)
abbrev kXXC (D : va_G) (tys : List (ClassId × FieldType)) (ws ws1 : va_W) (E0 : String) (sz : Nat) : String → State → State → Prop := vx_X (fun (_ : Unit) => True) (fun E _ t => E = E0 ∧ kB D tys ws1 (va_A ws sz) t) (va_A ws sz)
def kX (l : Launch) (y : MethodName) (code : ByteArray) (nL : Nat) (ret : Option FieldType) (F L mc ms : Nat) (D : va_G) (tys : List (ClassId × FieldType)) (z : zT) (av : List Value) (ws : va_W) (E0 : String) (ws1 : va_W) : Prop :=
  ∀ sz : Nat, vx_Met l y (.code y code nL ret :: lw_all) (kRc F L mc ms) (va_Pc av (kPz D tys sz ws z)) (kXQc ws sz) (kXXC D tys ws ws1 E0 sz) mc ms (va_A ws sz)
section ZLAY
variable {p : Program} {l : Launch} {e : Env} {R : Room} {s : State} {m : MethodId} {args : Array Value} {below : List Frame} {meth : Method} {c : Code} {cells slots : Nat} {Q : State → Prop} {D : va_G} {A : Nat → Prop} {nL : Nat} {cc : ByteArray} {own : String} {ret : Option FieldType} {tys : List (ClassId × FieldType)} {ws : va_W} {lv : List (Nat × Value)} {st : List Value} {pc : Nat} {z : zT}
theorem k_perm {ws2 : va_W} (hp : ws.Perm ws2) (h : KJ p l e R s m args below meth c cells slots Q D A nL ws2 lv st pc) : KJ p l e R s m args below meth c cells slots Q D A nL ws lv st pc := fun H locs ls hP hD hS hl => h H locs ls (hP.perm hp) (hD.perm hp) hS hl
theorem k_widen {k n : Nat} (h1 : cells ≤ k) (h2 : slots ≤ n) (h : KJ p l e R s m args below meth c k n Q D A nL ws lv st pc) : KJ p l e R s m args below meth c cells slots Q D A nL ws lv st pc := fun H locs ls hP hD hS hl => W.widen (k := k) (n := n) h1 h2 (h H locs ls hP hD hS hl)
theorem kUi_of {S : Type} {y : MethodName} {code : ByteArray} {F L mc ms : Nat} {av : List Value} {ws2 : S → va_W} {rt : FieldType} {r : Int32} (hown : y.cls = own) (hlv : lv_args 0 av = lv) (hy : plainName y.cls = true) (hn : (lg_sl av).length ≤ nL) (body : ∀ (p : Program) (e : Env) (s : State) (m : MethodId) (args : Array Value) (below : List Frame) (meth : Method) (c : Code) (Q : State → Prop) (A : Nat → Prop), KC p s m args meth c code nL own (some rt) D tys A → kZ z A s s.heap → (∀ (u : S) (lv2 : List (Nat × Value)) (pc k n : Nat), k ≤ mc → n ≤ ms → decode code pc = .ok (.ireturn, 1) → narrow rt (.int r) = .int r → KJ p l e (kRc F L mc ms) s m args below meth c k n Q D A nL (ws2 u) lv2 [.int r] pc) → KJ p l e (kRc F L mc ms) s m args below meth c 0 0 Q D A nL ws lv [] 0) : kUi l y code nL rt F L mc ms D tys z av ws r ws2 := by
  subst hown hlv
  intro sz
  refine Met.ofW (cc := code) (maxL := nL) (ret := (some rt)) hy rfl ?_
  intro p e s m args below meth c s₁ B hml hv
  obtain ⟨rfl, ⟨hsz, hP, hK, hD0, hN⟩, hZ⟩ := hv
  subst hsz
  have hts := atoms_spec (ws := .code y code nL (some rt) :: lw_all) B.pre
  have hl := lv_entry av (n := nL) hn
  rw [lg_entry_eq]
  exact body p e s m _ below meth c _ _ ⟨B.exec, B.bytes, hml, findClass_of_methodNamed B.named, fun w h => hts w (List.mem_cons_of_mem _ h), hK, fun q h => Or.inr h, B.returns, B.notSynchronized, hN⟩ hZ (fun u lv2 pc k n hk hn hd hnr => fun H locs ls hP hD hS hl => W.widen (k := mc) (n := ms) hk hn (W.zret B.exec B.bytes B.returns hnr (fun t ht hW => ⟨⟨_, u, rfl, rfl, by rw [ht]; exact hP, va_K.moved hW.alike hK, hD⟩, hS.F ht⟩) hS.2.2 hd B.notSynchronized)) s.heap [] _ hP hD0.self va_S.rf hl
theorem kUv_of {S : Type} {y : MethodName} {code : ByteArray} {F L mc ms : Nat} {av : List Value} {ws2 : S → va_W} (hown : y.cls = own) (hlv : lv_args 0 av = lv) (hy : plainName y.cls = true) (hn : (lg_sl av).length ≤ nL) (body : ∀ (p : Program) (e : Env) (s : State) (m : MethodId) (args : Array Value) (below : List Frame) (meth : Method) (c : Code) (Q : State → Prop) (A : Nat → Prop), KC p s m args meth c code nL own none D tys A → kZ z A s s.heap → (∀ (u : S) (lv2 : List (Nat × Value)) (pc k n : Nat), k ≤ mc → n ≤ ms → decode code pc = .ok (.return_, 1) → KJ p l e (kRc F L mc ms) s m args below meth c k n Q D A nL (ws2 u) lv2 [] pc) → KJ p l e (kRc F L mc ms) s m args below meth c 0 0 Q D A nL ws lv [] 0) : kUv l y code nL F L mc ms D tys z av ws ws2 := by
  subst hown hlv
  intro sz
  refine Met.ofW (cc := code) (maxL := nL) (ret := none) hy rfl ?_
  intro p e s m args below meth c s₁ B hml hv
  obtain ⟨rfl, ⟨hsz, hP, hK, hD0, hN⟩, hZ⟩ := hv
  subst hsz
  have hts := atoms_spec (ws := .code y code nL none :: lw_all) B.pre
  have hl := lv_entry av (n := nL) hn
  rw [lg_entry_eq]
  exact body p e s m _ below meth c _ _ ⟨B.exec, B.bytes, hml, findClass_of_methodNamed B.named, fun w h => hts w (List.mem_cons_of_mem _ h), hK, fun q h => Or.inr h, B.returns, B.notSynchronized, hN⟩ hZ (fun u lv2 pc k n hk hn hd => fun H locs ls hP hD hS hl => W.widen (k := mc) (n := ms) hk hn (W.vret B.exec B.bytes B.returns (fun t ht hW => ⟨⟨u, rfl, trivial, by rw [ht]; exact hP, va_K.moved hW.alike hK, hD⟩, hS.F ht⟩) hS.2.2 hd B.notSynchronized)) s.heap [] _ hP hD0.self va_S.rf hl
theorem k_finUi {S : Type} {mc ms : Nat} {rt : FieldType} {v r : Int32} {ws2 : S → va_W} (hret : ∀ (u : S) (lv2 : List (Nat × Value)) (pc k n : Nat), k ≤ mc → n ≤ ms → decode cc pc = .ok (.ireturn, 1) → narrow rt (.int r) = .int r → KJ p l e R s m args below meth c k n Q D A nL (ws2 u) lv2 [.int r] pc) (u : S) (hn : narrow rt (.int v) = .int v) (hr : v = r) (hw : ws = ws2 u) (hc : cells ≤ mc) (hs : slots ≤ ms) (hd : decode cc pc = .ok (.ireturn, 1)) : KJ p l e R s m args below meth c cells slots Q D A nL ws lv [.int v] pc := by
  subst hr hw
  exact hret u _ _ _ _ hc hs hd hn
theorem k_finUv {S : Type} {mc ms : Nat} {ws2 : S → va_W} (hret : ∀ (u : S) (lv2 : List (Nat × Value)) (pc k n : Nat), k ≤ mc → n ≤ ms → decode cc pc = .ok (.return_, 1) → KJ p l e R s m args below meth c k n Q D A nL (ws2 u) lv2 [] pc) (u : S) (hw : ws = ws2 u) (hc : cells ≤ mc) (hs : slots ≤ ms) (hd : decode cc pc = .ok (.return_, 1)) : KJ p l e R s m args below meth c cells slots Q D A nL ws lv [] pc := by
  subst hw
  exact hret u _ _ _ _ hc hs hd
def kCWi (y : MethodName) (bytes : ByteArray) (maxL : Nat) (n : Nat) : Prop := kCW y bytes maxL none n ∧ y.name = "<init>" ∧ Cond.instanceMethod y ∈ lw_all
theorem k_callUViP (C : KC p s m args meth c cc nL own ret D tys A) (hZ : kZ z A s s.heap) {b : Nat} {As rest : List Value} {index n : Nat} {y : MethodName} {bytes : ByteArray} {maxL F L mc ms : Nat} {wc wr : va_W} {S : Type} {ws2 : S → va_W} {rt : FieldType} {r : Int32} (hM : kUi l y bytes maxL rt F L mc ms D tys z (.ref b :: As) wc r ws2) (cw : kCWv y bytes maxL (some rt) n) (hlk : Cond.methodLink own index y ∈ lw_all) {ci : Nat} {T0 : u_T} {N : Nat} {ty0 : Nat → FieldType} {fs : List Value} (X : kCls ci y.cls T0 N ty0) (q0 : Nat) (hrv : ws[q0]? = some (b, .inr (ci, fs))) (hpm : ws.Perm (wc ++ wr)) (hst : st = As.reverse ++ .ref b :: rest) (hcat : (rest.map fun v => v.category).sum ≤ 8) (hR : F + 1 ≤ R.frames ∧ 8 + (maxL + 11) + L ≤ R.locals) (hn : As.length = n) (hcs : cells + mc ≤ R.cells ∧ slots + ms ≤ R.slots) (hd0 : decode cc pc = .ok (.invokevirtual index, 3)) (h : ∀ u : S, KJ p l e R s m args below meth c (cells + mc) (slots + ms) Q D A nL (wr ++ ws2 u) lv (.int r :: rest) (pc + 3)) : KJ p l e R s m args below meth c cells slots Q D A nL ws lv st pc := by
  intro H locs ls hP hD hS hl
  obtain ⟨hx, hb, hml, hown, hts, hK, hA, hr0, hlks, hN⟩ := C
  have hP' := hP.perm hpm
  have hD' := hD.perm hpm
  have hPc : va_P D vwCl wc H := hP'.left
  have hDc : va_D A wc := hD'.left
  have hFc := va_free2 hDc hS hA
  obtain ⟨⟨c1, c2, c3⟩, c4, c5⟩ := cw
  have hcw : CallW R s args own y.cls index y bytes maxL (some rt) (.code y bytes maxL (some rt) :: lw_all) (kRc F L mc ms) mc ms n := ⟨callB_of n hts (k_goodIn c1) rfl rfl rfl (hts _ c2) (hts _ hlk) c3 hR, hts _ c4, hts _ c5⟩
  refine va_calli (va_runV (As := As) (rest := rest) ⟨hx, hb, hml, hown, hts⟩ (hM H.size) hcw ⟨fun a U g mk q => ⟨q.1, ⟨q.2.1.1, q.2.1.2.1, q.2.1.2.2.1, q.2.1.2.2.2.1, kN.same (u := U) rfl q.2.1.2.2.2.2⟩, kZ.same (u := U) rfl q.2.2⟩, va_recv hK hP X.1 hrv, fun U hU hW => ⟨rfl, ⟨by rw [hU], by rw [hU]; exact hPc, va_K.moved hW.alike hK, hDc.weaken (fun _ _ _ _ => trivial), hN.warm hW⟩, by rw [hU]; exact kZ.go hW hS hFc hZ⟩⟩ rfl hn hl.1 hst (lv_room hcat) hd0 hcs) hS (fun q _ h => hFc q h) hFc (fun r2 u t H1 locs1 ht hvm hw2 hB hz1 hk1 hS1 => ?_)
  obtain ⟨hP1, hK1, hD1⟩ := hB
  rw [ht] at hP1
  subst hw2
  obtain ⟨hP2, hD2⟩ := k_joinP hP' hD' hk1 hFc hP1 hD1
  exact h u H1 locs1 ls hP2 hD2 hS1 hl
theorem k_callUVi (C : KC p s m args meth c cc nL own ret D tys A) (hZ : kZ z A s s.heap) {b : Nat} {As rest : List Value} {index n : Nat} {y : MethodName} {bytes : ByteArray} {maxL F L mc ms : Nat} {hd hc wr T : va_W} {S : Type} {ws2 : S → va_W} {rt : FieldType} {r : Int32} (hM : kUi l y bytes maxL rt F L mc ms D tys z (.ref b :: As) (hc ++ T) r ws2) (cw : kCWv y bytes maxL (some rt) n) (hlk : Cond.methodLink own index y ∈ lw_all) {ci : Nat} {T0 : u_T} {N : Nat} {ty0 : Nat → FieldType} {fs : List Value} (X : kCls ci y.cls T0 N ty0) (q0 : Nat) (hrv : (hd ++ T)[q0]? = some (b, .inr (ci, fs))) (isC isR : List Nat) (hC : isC.map (fun i => hd[i]?) = hc.map some) (hRr : isR.map (fun i => hd[i]?) = wr.map some) (hper : (isC ++ isR).Perm (List.range hd.length)) (hst : st = As.reverse ++ .ref b :: rest) (hcat : (rest.map fun v => v.category).sum ≤ 8) (hR : F + 1 ≤ R.frames ∧ 8 + (maxL + 11) + L ≤ R.locals) (hn : As.length = n) (hcs : cells + mc ≤ R.cells ∧ slots + ms ≤ R.slots) (hd0 : decode cc pc = .ok (.invokevirtual index, 3)) (h : ∀ u : S, KJ p l e R s m args below meth c (cells + mc) (slots + ms) Q D A nL (wr ++ ws2 u) lv (.int r :: rest) (pc + 3)) : KJ p l e R s m args below meth c cells slots Q D A nL (hd ++ T) lv st pc := k_callUViP C hZ hM cw hlk X q0 hrv (k_tailPerm (k_pick hC hRr hper)) hst hcat hR hn hcs hd0 h
theorem k_callUVvP (C : KC p s m args meth c cc nL own ret D tys A) (hZ : kZ z A s s.heap) {b : Nat} {As rest : List Value} {index n : Nat} {y : MethodName} {bytes : ByteArray} {maxL F L mc ms : Nat} {wc wr : va_W} {S : Type} {ws2 : S → va_W}  (hM : kUv l y bytes maxL F L mc ms D tys z (.ref b :: As) wc ws2) (cw : kCWv y bytes maxL none n) (hlk : Cond.methodLink own index y ∈ lw_all) {ci : Nat} {T0 : u_T} {N : Nat} {ty0 : Nat → FieldType} {fs : List Value} (X : kCls ci y.cls T0 N ty0) (q0 : Nat) (hrv : ws[q0]? = some (b, .inr (ci, fs))) (hpm : ws.Perm (wc ++ wr)) (hst : st = As.reverse ++ .ref b :: rest) (hcat : (rest.map fun v => v.category).sum ≤ 8) (hR : F + 1 ≤ R.frames ∧ 8 + (maxL + 11) + L ≤ R.locals) (hn : As.length = n) (hcs : cells + mc ≤ R.cells ∧ slots + ms ≤ R.slots) (hd0 : decode cc pc = .ok (.invokevirtual index, 3)) (h : ∀ u : S, KJ p l e R s m args below meth c (cells + mc) (slots + ms) Q D A nL (wr ++ ws2 u) lv rest (pc + 3)) : KJ p l e R s m args below meth c cells slots Q D A nL ws lv st pc := by
  intro H locs ls hP hD hS hl
  obtain ⟨hx, hb, hml, hown, hts, hK, hA, hr0, hlks, hN⟩ := C
  have hP' := hP.perm hpm
  have hD' := hD.perm hpm
  have hPc : va_P D vwCl wc H := hP'.left
  have hDc : va_D A wc := hD'.left
  have hFc := va_free2 hDc hS hA
  obtain ⟨⟨c1, c2, c3⟩, c4, c5⟩ := cw
  have hcw : CallW R s args own y.cls index y bytes maxL none (.code y bytes maxL none :: lw_all) (kRc F L mc ms) mc ms n := ⟨callB_of n hts (k_goodIn c1) rfl rfl rfl (hts _ c2) (hts _ hlk) c3 hR, hts _ c4, hts _ c5⟩
  refine va_callv (va_runV (As := As) (rest := rest) ⟨hx, hb, hml, hown, hts⟩ (hM H.size) hcw ⟨fun a U g mk q => ⟨q.1, ⟨q.2.1.1, q.2.1.2.1, q.2.1.2.2.1, q.2.1.2.2.2.1, kN.same (u := U) rfl q.2.1.2.2.2.2⟩, kZ.same (u := U) rfl q.2.2⟩, va_recv hK hP X.1 hrv, fun U hU hW => ⟨rfl, ⟨by rw [hU], by rw [hU]; exact hPc, va_K.moved hW.alike hK, hDc.weaken (fun _ _ _ _ => trivial), hN.warm hW⟩, by rw [hU]; exact kZ.go hW hS hFc hZ⟩⟩ rfl hn hl.1 hst (lv_room hcat) hd0 hcs) hS (fun q _ h => hFc q h) hFc (fun u t H1 locs1 ht hvm hw2 hB hz1 hk1 hS1 => ?_)
  obtain ⟨hP1, hK1, hD1⟩ := hB
  rw [ht] at hP1
  obtain ⟨hP2, hD2⟩ := k_joinP hP' hD' hk1 hFc hP1 hD1
  exact h u H1 locs1 ls hP2 hD2 hS1 hl
theorem k_callUVv (C : KC p s m args meth c cc nL own ret D tys A) (hZ : kZ z A s s.heap) {b : Nat} {As rest : List Value} {index n : Nat} {y : MethodName} {bytes : ByteArray} {maxL F L mc ms : Nat} {hd hc wr T : va_W} {S : Type} {ws2 : S → va_W}  (hM : kUv l y bytes maxL F L mc ms D tys z (.ref b :: As) (hc ++ T) ws2) (cw : kCWv y bytes maxL none n) (hlk : Cond.methodLink own index y ∈ lw_all) {ci : Nat} {T0 : u_T} {N : Nat} {ty0 : Nat → FieldType} {fs : List Value} (X : kCls ci y.cls T0 N ty0) (q0 : Nat) (hrv : (hd ++ T)[q0]? = some (b, .inr (ci, fs))) (isC isR : List Nat) (hC : isC.map (fun i => hd[i]?) = hc.map some) (hRr : isR.map (fun i => hd[i]?) = wr.map some) (hper : (isC ++ isR).Perm (List.range hd.length)) (hst : st = As.reverse ++ .ref b :: rest) (hcat : (rest.map fun v => v.category).sum ≤ 8) (hR : F + 1 ≤ R.frames ∧ 8 + (maxL + 11) + L ≤ R.locals) (hn : As.length = n) (hcs : cells + mc ≤ R.cells ∧ slots + ms ≤ R.slots) (hd0 : decode cc pc = .ok (.invokevirtual index, 3)) (h : ∀ u : S, KJ p l e R s m args below meth c (cells + mc) (slots + ms) Q D A nL (wr ++ ws2 u) lv rest (pc + 3)) : KJ p l e R s m args below meth c cells slots Q D A nL (hd ++ T) lv st pc := k_callUVvP C hZ hM cw hlk X q0 hrv (k_tailPerm (k_pick hC hRr hper)) hst hcat hR hn hcs hd0 h
theorem k_callUIvP (C : KC p s m args meth c cc nL own ret D tys A) (hZ : kZ z A s s.heap) {b : Nat} {As rest : List Value} {index n : Nat} {y : MethodName} {bytes : ByteArray} {maxL F L mc ms : Nat} {wc wr : va_W} {S : Type} {ws2 : S → va_W}  (hM : kUv l y bytes maxL F L mc ms D tys z (.ref b :: As) wc ws2) (cw : kCWi y bytes maxL n) (hlk : Cond.methodLink own index y ∈ lw_all) (hpm : ws.Perm (wc ++ wr)) (hst : st = As.reverse ++ .ref b :: rest) (hcat : (rest.map fun v => v.category).sum ≤ 8) (hR : F + 1 ≤ R.frames ∧ 8 + (maxL + 11) + L ≤ R.locals) (hn : As.length = n) (hcs : cells + mc ≤ R.cells ∧ slots + ms ≤ R.slots) (hd0 : decode cc pc = .ok (.invokespecial index, 3)) (h : ∀ u : S, KJ p l e R s m args below meth c (cells + mc) (slots + ms) Q D A nL (wr ++ ws2 u) lv rest (pc + 3)) : KJ p l e R s m args below meth c cells slots Q D A nL ws lv st pc := by
  intro H locs ls hP hD hS hl
  obtain ⟨hx, hb, hml, hown, hts, hK, hA, hr0, hlks, hN⟩ := C
  have hP' := hP.perm hpm
  have hD' := hD.perm hpm
  have hPc : va_P D vwCl wc H := hP'.left
  have hDc : va_D A wc := hD'.left
  have hFc := va_free2 hDc hS hA
  obtain ⟨⟨c1, c2, c3⟩, c4, c5⟩ := cw
  have hcw : CallB R s args own index y bytes maxL none (.code y bytes maxL none :: lw_all) (kRc F L mc ms) mc ms n ∧ y.name = "<init>" ∧ (Cond.instanceMethod y).before args s = true := ⟨callB_of n hts (k_goodIn c1) rfl rfl rfl (hts _ c2) (hts _ hlk) c3 hR, c4, hts _ c5⟩
  refine va_callv (va_runI (As := As) (rest := rest) ⟨hx, hb, hml, hown, hts⟩ (hM H.size) hcw ⟨fun a U g mk q => ⟨q.1, ⟨q.2.1.1, q.2.1.2.1, q.2.1.2.2.1, q.2.1.2.2.2.1, kN.same (u := U) rfl q.2.1.2.2.2.2⟩, kZ.same (u := U) rfl q.2.2⟩, fun U hU hW => ⟨rfl, ⟨by rw [hU], by rw [hU]; exact hPc, va_K.moved hW.alike hK, hDc.weaken (fun _ _ _ _ => trivial), hN.warm hW⟩, by rw [hU]; exact kZ.go hW hS hFc hZ⟩⟩ rfl hn hl.1 hst (lv_room hcat) hd0 hcs) hS (fun q _ h => hFc q h) hFc (fun u t H1 locs1 ht hvm hw2 hB hz1 hk1 hS1 => ?_)
  obtain ⟨hP1, hK1, hD1⟩ := hB
  rw [ht] at hP1
  obtain ⟨hP2, hD2⟩ := k_joinP hP' hD' hk1 hFc hP1 hD1
  exact h u H1 locs1 ls hP2 hD2 hS1 hl
theorem k_callUIv (C : KC p s m args meth c cc nL own ret D tys A) (hZ : kZ z A s s.heap) {b : Nat} {As rest : List Value} {index n : Nat} {y : MethodName} {bytes : ByteArray} {maxL F L mc ms : Nat} {hd hc wr T : va_W} {S : Type} {ws2 : S → va_W}  (hM : kUv l y bytes maxL F L mc ms D tys z (.ref b :: As) (hc ++ T) ws2) (cw : kCWi y bytes maxL n) (hlk : Cond.methodLink own index y ∈ lw_all) (isC isR : List Nat) (hC : isC.map (fun i => hd[i]?) = hc.map some) (hRr : isR.map (fun i => hd[i]?) = wr.map some) (hper : (isC ++ isR).Perm (List.range hd.length)) (hst : st = As.reverse ++ .ref b :: rest) (hcat : (rest.map fun v => v.category).sum ≤ 8) (hR : F + 1 ≤ R.frames ∧ 8 + (maxL + 11) + L ≤ R.locals) (hn : As.length = n) (hcs : cells + mc ≤ R.cells ∧ slots + ms ≤ R.slots) (hd0 : decode cc pc = .ok (.invokespecial index, 3)) (h : ∀ u : S, KJ p l e R s m args below meth c (cells + mc) (slots + ms) Q D A nL (wr ++ ws2 u) lv rest (pc + 3)) : KJ p l e R s m args below meth c cells slots Q D A nL (hd ++ T) lv st pc := k_callUIvP C hZ hM cw hlk (k_tailPerm (k_pick hC hRr hper)) hst hcat hR hn hcs hd0 h
theorem k_callUNvP (C : KC p s m args meth c cc nL own ret D tys A) (hZ : kZ z A s s.heap) {b : Nat} {As rest : List Value} {host : String} {index n : Nat} {y : MethodName} {bytes : ByteArray} {maxL F L mc ms : Nat} {wc wr : va_W} {S : Type} {ws2 : S → va_W}  (hM : kUv l y bytes maxL F L mc ms D tys z (.ref b :: As) wc ws2) (cw : kCWi y bytes maxL n) (hlk : Cond.methodLinkNest own index y host ∈ lw_nest) (hpm : ws.Perm (wc ++ wr)) (hst : st = As.reverse ++ .ref b :: rest) (hcat : (rest.map fun v => v.category).sum ≤ 8) (hR : F + 1 ≤ R.frames ∧ 8 + (maxL + 11) + L ≤ R.locals) (hn : As.length = n) (hcs : cells + mc ≤ R.cells ∧ slots + ms ≤ R.slots) (hd0 : decode cc pc = .ok (.invokespecial index, 3)) (h : ∀ u : S, KJ p l e R s m args below meth c (cells + mc) (slots + ms) Q D A nL (wr ++ ws2 u) lv rest (pc + 3)) : KJ p l e R s m args below meth c cells slots Q D A nL ws lv st pc := by
  intro H locs ls hP hD hS hl
  obtain ⟨hx, hb, hml, hown, hts, hK, hA, hr0, hlks, hN⟩ := C
  have hP' := hP.perm hpm
  have hD' := hD.perm hpm
  have hPc : va_P D vwCl wc H := hP'.left
  have hDc : va_D A wc := hD'.left
  have hFc := va_free2 hDc hS hA
  obtain ⟨⟨c1, c2, c3⟩, c4, c5⟩ := cw
  have hcw : va_CN R s args own index y host bytes maxL none (.code y bytes maxL none :: lw_all) (kRc F L mc ms) mc ms n ∧ y.name = "<init>" ∧ (Cond.instanceMethod y).before args s = true := ⟨va_cnB n hts (k_goodIn c1) rfl rfl rfl (hN _ hlk) (hts _ c2) c3 hR, c4, hts _ c5⟩
  refine va_callv (va_runIN (As := As) (rest := rest) ⟨hx, hb, hml, hown, hts⟩ (hM H.size) hcw ⟨fun a U g mk q => ⟨q.1, ⟨q.2.1.1, q.2.1.2.1, q.2.1.2.2.1, q.2.1.2.2.2.1, kN.same (u := U) rfl q.2.1.2.2.2.2⟩, kZ.same (u := U) rfl q.2.2⟩, fun U hU hW => ⟨rfl, ⟨by rw [hU], by rw [hU]; exact hPc, va_K.moved hW.alike hK, hDc.weaken (fun _ _ _ _ => trivial), hN.warm hW⟩, by rw [hU]; exact kZ.go hW hS hFc hZ⟩⟩ rfl hn hl.1 hst (lv_room hcat) hd0 hcs) hS (fun q _ h => hFc q h) hFc (fun u t H1 locs1 ht hvm hw2 hB hz1 hk1 hS1 => ?_)
  obtain ⟨hP1, hK1, hD1⟩ := hB
  rw [ht] at hP1
  obtain ⟨hP2, hD2⟩ := k_joinP hP' hD' hk1 hFc hP1 hD1
  exact h u H1 locs1 ls hP2 hD2 hS1 hl
theorem k_callUNv (C : KC p s m args meth c cc nL own ret D tys A) (hZ : kZ z A s s.heap) {b : Nat} {As rest : List Value} {host : String} {index n : Nat} {y : MethodName} {bytes : ByteArray} {maxL F L mc ms : Nat} {hd hc wr T : va_W} {S : Type} {ws2 : S → va_W}  (hM : kUv l y bytes maxL F L mc ms D tys z (.ref b :: As) (hc ++ T) ws2) (cw : kCWi y bytes maxL n) (hlk : Cond.methodLinkNest own index y host ∈ lw_nest) (isC isR : List Nat) (hC : isC.map (fun i => hd[i]?) = hc.map some) (hRr : isR.map (fun i => hd[i]?) = wr.map some) (hper : (isC ++ isR).Perm (List.range hd.length)) (hst : st = As.reverse ++ .ref b :: rest) (hcat : (rest.map fun v => v.category).sum ≤ 8) (hR : F + 1 ≤ R.frames ∧ 8 + (maxL + 11) + L ≤ R.locals) (hn : As.length = n) (hcs : cells + mc ≤ R.cells ∧ slots + ms ≤ R.slots) (hd0 : decode cc pc = .ok (.invokespecial index, 3)) (h : ∀ u : S, KJ p l e R s m args below meth c (cells + mc) (slots + ms) Q D A nL (wr ++ ws2 u) lv rest (pc + 3)) : KJ p l e R s m args below meth c cells slots Q D A nL (hd ++ T) lv st pc := k_callUNvP C hZ hM cw hlk (k_tailPerm (k_pick hC hRr hper)) hst hcat hR hn hcs hd0 h
theorem k_callUSiP (C : KC p s m args meth c cc nL own ret D tys A) (hZ : kZ z A s s.heap) {As rest : List Value} {index n : Nat} {y : MethodName} {bytes : ByteArray} {maxL F L mc ms : Nat} {wc wr : va_W} {S : Type} {ws2 : S → va_W} {rt : FieldType} {r : Int32} (hM : kUi l y bytes maxL rt F L mc ms D tys z As wc r ws2) (cw : kCWs y bytes maxL (some rt) n) (hlk : Cond.methodLink own index y ∈ lw_all) (hpm : ws.Perm (wc ++ wr)) (hst : st = As.reverse ++ rest) (hcat : (rest.map fun v => v.category).sum ≤ 8) (hR : F + 1 ≤ R.frames ∧ 8 + (maxL + 11) + L ≤ R.locals) (hn : As.length = n) (hcs : cells + mc ≤ R.cells ∧ slots + ms ≤ R.slots) (hd0 : decode cc pc = .ok (.invokestatic index, 3)) (h : ∀ u : S, KJ p l e R s m args below meth c (cells + mc) (slots + ms) Q D A nL (wr ++ ws2 u) lv (.int r :: rest) (pc + 3)) : KJ p l e R s m args below meth c cells slots Q D A nL ws lv st pc := by
  intro H locs ls hP hD hS hl
  obtain ⟨hx, hb, hml, hown, hts, hK, hA, hr0, hlks, hN⟩ := C
  have hP' := hP.perm hpm
  have hD' := hD.perm hpm
  have hPc : va_P D vwCl wc H := hP'.left
  have hDc : va_D A wc := hD'.left
  have hFc := va_free2 hDc hS hA
  obtain ⟨⟨c1, c2, c3⟩, c4⟩ := cw
  have hcw : CallB R s args own index y bytes maxL (some rt) (.code y bytes maxL (some rt) :: lw_all) (kRc F L mc ms) mc ms n ∧ (Cond.static y).before args s = true := ⟨callB_of n hts (k_goodIn c1) rfl rfl rfl (hts _ c2) (hts _ hlk) c3 hR, hts _ c4⟩
  refine va_calli (va_runS (As := As) (rest := rest) ⟨hx, hb, hml, hown, hts⟩ (hM H.size) hcw ⟨fun a U g mk q => ⟨q.1, ⟨q.2.1.1, q.2.1.2.1, q.2.1.2.2.1, q.2.1.2.2.2.1, kN.same (u := U) rfl q.2.1.2.2.2.2⟩, kZ.same (u := U) rfl q.2.2⟩, fun U hU hW => ⟨rfl, ⟨by rw [hU], by rw [hU]; exact hPc, va_K.moved hW.alike hK, hDc.weaken (fun _ _ _ _ => trivial), hN.warm hW⟩, by rw [hU]; exact kZ.go hW hS hFc hZ⟩⟩ rfl hn hl.1 hst (lv_room hcat) hd0 hcs) hS (fun q _ h => hFc q h) hFc (fun r2 u t H1 locs1 ht hvm hw2 hB hz1 hk1 hS1 => ?_)
  obtain ⟨hP1, hK1, hD1⟩ := hB
  rw [ht] at hP1
  subst hw2
  obtain ⟨hP2, hD2⟩ := k_joinP hP' hD' hk1 hFc hP1 hD1
  exact h u H1 locs1 ls hP2 hD2 hS1 hl
theorem k_callUSi (C : KC p s m args meth c cc nL own ret D tys A) (hZ : kZ z A s s.heap) {As rest : List Value} {index n : Nat} {y : MethodName} {bytes : ByteArray} {maxL F L mc ms : Nat} {hd hc wr T : va_W} {S : Type} {ws2 : S → va_W} {rt : FieldType} {r : Int32} (hM : kUi l y bytes maxL rt F L mc ms D tys z As (hc ++ T) r ws2) (cw : kCWs y bytes maxL (some rt) n) (hlk : Cond.methodLink own index y ∈ lw_all) (isC isR : List Nat) (hC : isC.map (fun i => hd[i]?) = hc.map some) (hRr : isR.map (fun i => hd[i]?) = wr.map some) (hper : (isC ++ isR).Perm (List.range hd.length)) (hst : st = As.reverse ++ rest) (hcat : (rest.map fun v => v.category).sum ≤ 8) (hR : F + 1 ≤ R.frames ∧ 8 + (maxL + 11) + L ≤ R.locals) (hn : As.length = n) (hcs : cells + mc ≤ R.cells ∧ slots + ms ≤ R.slots) (hd0 : decode cc pc = .ok (.invokestatic index, 3)) (h : ∀ u : S, KJ p l e R s m args below meth c (cells + mc) (slots + ms) Q D A nL (wr ++ ws2 u) lv (.int r :: rest) (pc + 3)) : KJ p l e R s m args below meth c cells slots Q D A nL (hd ++ T) lv st pc := k_callUSiP C hZ hM cw hlk (k_tailPerm (k_pick hC hRr hper)) hst hcat hR hn hcs hd0 h
end ZLAY
