theorem q_61 : Cond.classLink RL 8 RX10 ∈ lw_all := kq 61 (by decide +kernel) (by decide +kernel)
theorem q_62 : Cond.instantiable RX10 4 ∈ lw_all := kq 62 (by decide +kernel) (by decide +kernel)
theorem q_63 : Cond.methodLink RL 99 yX10_init ∈ lw_all := kq 63 (by decide +kernel) (by decide +kernel)
theorem q_64 : Cond.instanceMethod yX10_init ∈ lw_all := kq 64 (by decide +kernel) (by decide +kernel)
theorem q_65 : Cond.code yX10_init cX10_init 1 none ∈ lw_all := kq 65 (by decide +kernel) (by decide +kernel)
theorem q_980 : Cond.classLink RL 100 RX11 ∈ lw_all := kq 980 (by decide +kernel) (by decide +kernel)
theorem q_981 : Cond.instantiable RX11 14 ∈ lw_all := kq 981 (by decide +kernel) (by decide +kernel)
theorem q_982 : Cond.methodLink RL 102 yX11_init ∈ lw_all := kq 982 (by decide +kernel) (by decide +kernel)
theorem q_983 : Cond.instanceMethod yX11_init ∈ lw_all := kq 983 (by decide +kernel) (by decide +kernel)
theorem q_984 : Cond.code yX11_init cX11_init 2 none ∈ lw_all := kq 984 (by decide +kernel) (by decide +kernel)
theorem q_1309 : Cond.arrayClass .double ∈ lw_all := kq 1309 (by decide +kernel) (by decide +kernel)
theorem cwi_X10_init : kCWi yX10_init cX10_init 1 0 := ⟨⟨q_65, q_41, by decide +kernel⟩, rfl, q_64⟩
theorem cwi_X11_init : kCWi yX11_init cX11_init 2 0 := ⟨⟨q_984, q_53, by decide +kernel⟩, rfl, q_983⟩

theorem k_startPerm {A B : va_W} {o d : Nat × va_E} : (((A ++ B) ++ [o]) ++ [d]).Perm ((B ++ [d]) ++ (o :: A)) := by
  have h1 : ((A ++ B) ++ [o]).Perm (B ++ (o :: A)) := by
    refine (List.perm_append_comm.append_right [o]).trans ?_
    rw [List.append_assoc]
    exact (List.perm_append_comm (l₁ := A) (l₂ := [o])).append_left B
  refine (h1.append_right [d]).trans ?_
  rw [List.append_assoc, List.append_assoc]
  exact (List.perm_append_comm (l₁ := o :: A) (l₂ := [d])).append_left B
theorem kF0 {hb : Nat → Nat → Nat} : kF 0 hb = fun _ => none := by
  funext i
  exact if_neg (Nat.not_lt_zero i)
/-- the states at first -/
def X00 : kXS := (iS, 17, iS, 17, i0, i0, i0, i0, i0)
def Y00 : kTS := (0, fun _ _ => 0, fun _ _ _ => 0, fun _ => 0)
def M00 : kMS := (i0, iW, fun _ => 0, fun _ => 0, i0, i0)
def v00 (a : Nat) (u : Nat → Nat) : Nat → Nat := fun k => match k with
  | 0 => a
  | k + 1 => u k
set_option maxRecDepth 100000 in
set_option maxHeartbeats 8000000 in
theorem law_start {p : Program} {l : Launch} {e : Env} {s : State} {m : MethodId} {args : Array Value} {below : List Frame} {meth : Method} {c : Code} {Q : State → Prop} {D : va_G} {A : Nat → Prop} {ret : Option FieldType} {cI cJ cO cD : ClassId} {z : zT} {sb L : Nat} {xs : Nat → Int32} (C4 : KC p s m args meth c cL_law 9 RL ret D (kT4 cI cJ cO cD) A) (hZ : kZ z A s s.heap) (hX : va_X sb L xs s s.heap) (hbl : sb < s.heap.size) (hbA : ¬ A sb) (hL : L ≤ 2560) {R : kXS → kTS → kMS → Prop} {P : (Nat → Int64) → Prop} (H : lawOK l D cI cJ cO cD z R P) (hR : R X00 Y00 M00) (hend : ∀ (b o oD : Nat) (u v : Nat → Nat) (X : kXS) (Y : kTS) (M : kMS) (fo : Nat → Int64) (fd : Nat → UInt64) (n cells slots : Nat), cells ≤ room_1.cells → slots ≤ room_1.slots → KJ p l e room_1 s m args below meth c cells slots Q D A 9 (lawW cI cJ cO cD b o oD u v X Y M fo fd) [(5, .int (nI n)), (4, .ref oD), (3, .ref o), (2, .ref (v 0)), (1, .ref b), (0, .ref sb)] [.int 1] 1816) : KJ p l e room_1 s m args below meth c 0 0 Q D A 9 [] [(0, .ref sb)] [] 0 := by
  have C := KC.t4 C4
  refine k_new (pc := 0) (fs := [.null, .null, .null, .null]) C vX10 q_61 q_62 q_41 (by decide) ⟨Nat.le_of_ble_eq_true rfl, Nat.le_of_ble_eq_true rfl⟩ dL_law_0 (fun b => ?_)
  refine k_dup (pc := 3) C rfl dL_law_3 ?_
  refine k_callUIvP (pc := 4) (As := []) (rest := [.ref b]) (wc := [(b, .inr (10, [.null, .null, .null, .null]))]) (wr := []) C hZ (c_X10_init l D cI cJ cO z b) cwi_X10_init q_63 (List.Perm.refl _) rfl (Nat.le_of_ble_eq_true rfl) ⟨Nat.le_of_ble_eq_true rfl, Nat.le_of_ble_eq_true rfl⟩ rfl ⟨Nat.le_of_ble_eq_true rfl, Nat.le_of_ble_eq_true rfl⟩ dL_law_4 (fun u => ?_)
  refine k_astore_n (pc := 7) (lv2 := [(1, .ref b), (0, .ref sb)]) C rfl (by decide) rfl dL_law_7 ?_
  refine k_show (ws2 := xoW cI cO b u iS 17 iS 17 i0 (fun _ => none) i0 i0 i0 i0) rfl ?_
  refine k_new (pc := 8) (fs := [.null, .null, .null, .null, .null, .int 0, .int 0, .int 0, .int 0, .int 0, .int 0, .int 0, .int 0, .int 0]) C vX11 q_980 q_981 q_53 (by decide) ⟨Nat.le_of_ble_eq_true rfl, Nat.le_of_ble_eq_true rfl⟩ dL_law_8 (fun a => ?_)
  refine k_dup (pc := 11) C rfl dL_law_11 ?_
  refine k_callUIvP (pc := 12) (As := []) (rest := [.ref a]) (wc := [(a, .inr (11, [.null, .null, .null, .null, .null, .int 0, .int 0, .int 0, .int 0, .int 0, .int 0, .int 0, .int 0, .int 0]))]) (wr := xoW cI cO b u iS 17 iS 17 i0 (fun _ => none) i0 i0 i0 i0) C hZ (c_X11_init l D cI cJ cO z a) cwi_X11_init q_982 List.perm_append_comm rfl (Nat.le_of_ble_eq_true rfl) ⟨Nat.le_of_ble_eq_true rfl, Nat.le_of_ble_eq_true rfl⟩ rfl ⟨Nat.le_of_ble_eq_true rfl, Nat.le_of_ble_eq_true rfl⟩ dL_law_12 (fun v => ?_)
  refine k_astore_n (pc := 15) (lv2 := [(2, .ref a), (1, .ref b), (0, .ref sb)]) C rfl (by decide) rfl dL_law_15 ?_
  refine k_iconst (pc := 16) C iconst_1 dL_law_16 ?_
  refine k_newJ (pc := 17) (N := 1) (t0 := 1) C rfl q_1041 (by decide) (by decide) (by decide) ⟨Nat.le_of_ble_eq_true rfl, Nat.le_of_ble_eq_true rfl⟩ dL_law_17 (fun o => ?_)
  refine k_astore_n (pc := 19) (lv2 := [(3, .ref o), (2, .ref a), (1, .ref b), (0, .ref sb)]) C rfl (by decide) rfl dL_law_19 ?_
  refine k_iconst (pc := 20) C iconst_1 dL_law_20 ?_
  refine k_newD (pc := 21) (N := 1) (t0 := 3) C4 rfl q_1309 (by decide) (by decide) (by decide) ⟨Nat.le_of_ble_eq_true rfl, Nat.le_of_ble_eq_true rfl⟩ dL_law_21 (fun oD => ?_)
  refine k_astore (pc := 23) (lv2 := [(4, .ref oD), (3, .ref o), (2, .ref a), (1, .ref b), (0, .ref sb)]) C (by decide) rfl dL_law_23 ?_
  refine k_iconst (pc := 25) C iconst_0 dL_law_25 ?_
  refine k_istore (pc := 26) (lv2 := [(5, .int 0), (4, .ref oD), (3, .ref o), (2, .ref a), (1, .ref b), (0, .ref sb)]) C (by decide) rfl dL_law_26 ?_
  refine k_perm k_startPerm ?_
  refine k_show (ws2 := lawW cI cJ cO cD b o oD u (v00 a v) X00 Y00 M00 (fun _ => 0) (fun _ => 0)) (by show _ = (moW cI cJ (v00 a v) M00 ++ [(oD, dA cD 1 (fun _ => 0))]) ++ (xwW cI cJ cO b o u X00 Y00 (fun _ => 0) ++ kTl cI Y00); rw [show kTl cI Y00 = [] from rfl, List.append_nil]; unfold xwW; rw [show kF Y00.1 Y00.2.1 = fun _ => none from kF0]; rfl) ?_
  exact law_loop C4 hZ hX hbl hbA hL H (hend b o oD u (v00 a v)) (L + 1) 0 X00 Y00 M00 _ _ _ _ (by omega) (Nat.zero_le L) hR (Nat.le_of_ble_eq_true rfl) (Nat.le_of_ble_eq_true rfl)