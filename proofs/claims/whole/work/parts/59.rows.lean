/-! a row that is shifted when it is full, and the ring beside it -/
theorem nIL {q : Nat} (h : q < 2 ^ 31) : ((nI q).toInt64).toInt = (q : Int) := by rw [Int32.toInt_toInt64, nI_toInt h]
theorem nIL_inj {q r : Nat} (hq : q < 2 ^ 31) (hr : r < 2 ^ 31) (h : (nI q).toInt64 = (nI r).toInt64) : q = r := by
  have a := nIL hq
  rw [h, nIL hr] at a
  omega
theorem nIL_back {q : Nat} : ((nI q).toInt64).toInt32 = nI q := Int32.toInt32_toInt64 _
theorem nIL_dec {q : Nat} (h : 0 < q) (hq : q < 2 ^ 31) : (nI q).toInt64 - 1 = (nI (q - 1)).toInt64 := by
  refine Int64.toInt_inj.mp ?_
  rw [Int64.toInt_sub, nIL hq, nIL (by omega), show (1 : Int64).toInt = 1 by decide, kn_bmodL (by omega) (by omega)]
  omega
theorem nIL_inc {q : Nat} (hq : q + 1 < 2 ^ 31) : (nI q).toInt64 + 1 = (nI (q + 1)).toInt64 := by
  refine Int64.toInt_inj.mp ?_
  rw [Int64.toInt_add, nIL (by omega), nIL (by omega), show (1 : Int64).toInt = 1 by decide, kn_bmodL (by omega) (by omega)]
  omega
theorem rg_store {N B s d M : Nat} {w x W : Nat → Int64} {g cells : Nat → Int32} {xv : Int32} (h : rgR N g cells (w M) (fun i => w (B + s * i + d))) (hN : 0 < N ∧ N ≤ 60) (hM : M < B) (hd : d < s) (hx : ∀ k : Nat, x k = if w M = (nI N).toInt64 then (if k = M then w M - 1 else if B ≤ k ∧ k < B + s * (N - 1) then w (k + s) else w k) else w k) (hWM : W M = x M + 1) (hW : ∀ m : Nat, x M = (nI m).toInt64 → m < N → (∀ i : Nat, i < N → i ≠ m → W (B + s * i + d) = x (B + s * i + d)) ∧ W (B + s * m + d) = xv.toInt64) : rgR N (s_X3_add N g cells xv).1 (s_X3_add N g cells xv).2 (W M) (fun i => W (B + s * i + d)) := by
  obtain ⟨p, q, hp, hq, h1, h2, h3, h4⟩ := h
  by_cases hf : q = N
  · subst hf
    have xM : x M = (nI (q - 1)).toInt64 := by
      rw [hx, if_pos h3, if_pos rfl, h3]
      exact nIL_dec hN.1 (by omega)
    obtain ⟨w1, w2⟩ := hW (q - 1) xM (by omega)
    refine rg_add (row := fun i => w (B + s * i + d)) (by omega) hp hq h1 h2 h4 ?_ ?_ ?_
    · rw [hWM, xM, if_pos rfl, nIL_inc (by omega)]
      congr 2; omega
    · intro i hi
      rw [if_pos rfl] at hi
      have e1 : s * (i + 1) = s * i + s := Nat.mul_succ s i
      have e2 : s * (i + 1) ≤ s * (q - 1) := Nat.mul_le_mul_left s (by omega)
      show W (B + s * i + d) = w (B + s * (i + (if q = q then 1 else 0)) + d)
      rw [w1 i (by omega) (by omega), hx, if_pos h3, if_neg (by omega), if_pos (by omega), if_pos rfl, e1]
      congr 1; omega
    · rw [if_pos rfl]; exact w2
  · have hne : ¬ w M = (nI N).toInt64 := fun z => hf (nIL_inj (by omega) (by omega) (h3.symm.trans z))
    have xk : ∀ k : Nat, x k = w k := fun k => by rw [hx, if_neg hne]
    have xM : x M = (nI q).toInt64 := by rw [xk, h3]
    obtain ⟨w1, w2⟩ := hW q xM (by omega)
    refine rg_add (row := fun i => w (B + s * i + d)) (by omega) hp hq h1 h2 h4 ?_ ?_ ?_
    · rw [hWM, xM, if_neg hf, nIL_inc (by omega)]
    · intro i hi
      rw [if_neg hf] at hi
      show W (B + s * i + d) = w (B + s * (i + (if q = N then 1 else 0)) + d)
      rw [w1 i (by omega) (by omega), xk, if_neg hf, Nat.add_zero]
    · rw [if_neg hf]
      exact w2
theorem rgR.many {N : Nat} {g cells : Nat → Int32} {m : Int64} {row : Nat → Int64} (h : rgR N g cells m row) (hN : N < 2 ^ 31) : kInL m 0 N := by
  obtain ⟨p, q, hp, hq, h1, h2, h3, h4⟩ := h
  rw [h3]
  unfold kInL
  rw [nIL (by omega)]
  omega
/-! entries -/
def entS (S : Nat → Nat → Int32) (p0 n : Int32) : Nat → Nat → Int32 := va_up (va_up (va_up (va_up (va_up (va_up S 19 (s_X3_add 24 (S 19) (S 22) p0).1) 22 (s_X3_add 24 (S 19) (S 22) p0).2) 20 (s_X3_add 24 (S 20) (S 23) n).1) 23 (s_X3_add 24 (S 20) (S 23) n).2) 21 (s_X3_add 24 (S 21) (S 24) (S 0 0)).1) 24 (s_X3_add 24 (S 21) (S 24) (S 0 0)).2
theorem entS_lo {S : Nat → Nat → Int32} {p0 n : Int32} {a : Nat} (h : a < 19 ∨ a = 25) : entS S p0 n a = S a := by
  unfold entS va_up
  rw [if_neg (by omega), if_neg (by omega), if_neg (by omega), if_neg (by omega), if_neg (by omega), if_neg (by omega)]
theorem en_key {w x : Nat → Int64} {m : Nat} (hm : m < 24) (hx : x 46 = (nI m).toInt64) (p0 : Int32) (p1 : Int64) (k : Nat) : s_X11_enter_3 p0 p1 x k = if k = 47 then 31 * x 47 + 1000 * p0.toInt64 + p1 else if k = 46 then x 46 + 1 else if k = 162 + 3 * m + 2 then x 32 else if k = 162 + 3 * m + 1 then p1 else if k = 162 + 3 * m then p0.toInt64 else x k := by
  have e : (162 : Int32) + 3 * (Int64.toInt32 (x 46)) = nI (162 + 3 * m) := by
    rw [hx, nIL_back]
    refine nI_kin ?_ (by omega)
    have a := kIn.add (kIn.lit (x := 162) (n := 162) (by decide)) (kIn.mul (x := 3) (n := 3) (by decide) (by decide) (kIx (n := m) (by omega)) (by omega) (by omega)) (by omega) (by omega)
    exact ⟨by have := a.1; omega, by have := a.2; omega⟩
  have e1 : (162 : Int32) + 3 * (Int64.toInt32 (x 46)) + 1 = nI (162 + 3 * m + 1) := by rw [e, nI_succ]
  have e2 : (162 : Int32) + 3 * (Int64.toInt32 (x 46)) + 2 = nI (162 + 3 * m + 2) := by rw [e]; exact nI_2 _
  unfold s_X11_enter_3
  rw [e1, e2, e, nI_clamp (by omega), nI_clamp (by omega), nI_clamp (by omega)]
  unfold vp_updL
  rfl
theorem kRel.enter {T : Int} {S : Nat → Nat → Int32} {j : Int64} {w : Nat → Int64} (h : kRel T S j w) (f : Nat → Int32) {p0 n : Int32} {b : Int64} (hk : (1000 * p0).toInt64 = 1000 * p0.toInt64) (hb : b = n.toInt64) : kRel T (entS S p0 n) (31 * j + (1000 * p0).toInt64 + n.toInt64) (s_X11_enter f w p0 b) := by
  obtain ⟨a1, a2, ⟨r1, r2, r3, r4⟩, ⟨e1, e2, e3⟩, b1, b2, c⟩ := h
  have h46 := e1.many (by decide)
  have h32 := (a1 32 (by decide)).1
  have fr := fr_X11_enter f w p0 b h46
  have ex : ∃ m : Nat, m < 24 ∧ j_X11_enter_2 w 46 = (nI m).toInt64 := by
    have k := en_pre46 h46
    refine ⟨(j_X11_enter_2 w 46).toInt.toNat, by have := k.1; have := k.2; omega, Int64.toInt_inj.mp ?_⟩
    have := k.1; have := k.2
    rw [nIL (by omega)]
    omega
  obtain ⟨m, hm, xm⟩ := ex
  have key := en_key (w := w) hm xm p0 b
  have xo : ∀ k : Nat, k < 162 → k ≠ 46 → j_X11_enter_2 w k = w k := fun k h1 h2 => by
    rw [en_pre]
    by_cases c : w 46 = 24
    · rw [if_pos c, if_neg h2, if_neg (by omega)]
    · rw [if_neg c]
  have W46 : s_X11_enter f w p0 b 46 = j_X11_enter_2 w 46 + 1 := en_46 f w p0 b
  have st : ∀ (d : Nat) (g cells : Nat → Int32) (xv : Int32), d < 3 → rgR 24 g cells (w 46) (fun i => w (162 + 3 * i + d)) → (if d = 0 then p0.toInt64 else if d = 1 then b else w 32) = xv.toInt64 → rgR 24 (s_X3_add 24 g cells xv).1 (s_X3_add 24 g cells xv).2 (s_X11_enter f w p0 b 46) (fun i => s_X11_enter f w p0 b (162 + 3 * i + d)) := by
    intro d g cells xv hd hr hv
    refine rg_store (x := j_X11_enter_2 w) hr (by decide) (by decide) hd (fun k => en_pre w k) W46 (fun m2 hx2 hm2 => ?_)
    have em : m2 = m := nIL_inj (by omega) (by omega) (hx2.symm.trans xm)
    subst em
    refine ⟨fun i hi hne => ?_, ?_⟩
    · refine (key (162 + 3 * i + d)).trans ?_
      rw [if_neg (by omega), if_neg (by omega), if_neg (by omega), if_neg (by omega), if_neg (by omega)]
    · refine (key (162 + 3 * m2 + d)).trans ?_
      rw [← hv, if_neg (by omega), if_neg (by omega), xo 32 (by decide) (by decide)]
      match d, hd with
      | 0, _ => rw [if_neg (by omega), if_neg (by omega), if_pos rfl, if_pos (by omega)]
      | 1, _ => rw [if_neg (by omega), if_pos rfl, if_neg (by decide), if_pos rfl]
      | 2, _ => rw [if_pos rfl, if_neg (by decide), if_neg (by decide)]
      | n + 3, hd => omega
  refine ⟨fun k hk => ?_, fun k hk => ?_, ⟨?_, ?_, ?_, ?_⟩, ⟨?_, ?_, ?_⟩, ?_, fun i hi => ?_, ?_⟩
  · have := rA_le k hk
    unfold rS
    rw [entS_lo (by omega), fr k (by omega)]
    exact a1 k hk
  · rw [entS_lo (by decide)] at hk
    have b43 : (S 4 1).toInt ≤ 12 := (a1 43 (by decide)).2.2
    rw [entS_lo (by decide), fr _ (by omega)]
    exact a2 k hk
  · exact r1.cg (entS_lo (by decide)) (entS_lo (by decide)) (fr 45 (by decide)) (fun i hi => fr _ (by omega))
  · exact r2.cg (entS_lo (by decide)) (entS_lo (by decide)) (fr 45 (by decide)) (fun i hi => fr _ (by omega))
  · exact r3.cg (entS_lo (by decide)) (entS_lo (by decide)) (fr 45 (by decide)) (fun i hi => fr _ (by omega))
  · exact r4.cg (entS_lo (by decide)) (entS_lo (by decide)) (fr 45 (by decide)) (fun i hi => fr _ (by omega))
  · exact st 0 (S 19) (S 22) p0 (by decide) e1 (by rw [if_pos rfl])
  · exact st 1 (S 20) (S 23) n (by decide) e2 (by rw [if_neg (by decide), if_pos rfl, hb])
  · exact st 2 (S 21) (S 24) (S 0 0) (by decide) e3 (by rw [if_neg (by decide), if_neg (by decide)]; exact h32)
  · exact b1.cg (entS_lo (by decide)) (entS_lo (by decide)) (fr 48 (by decide)) (fun i hi => fr _ (by omega))
  · rw [fr 48 (by decide)] at hi
    rw [fr _ (by omega)]; exact b2 i hi
  · refine Eq.trans ?_ (key 47).symm
    rw [if_pos rfl, xo 47 (by decide) (by decide), ← c, hk, hb]
theorem ent_com {S : Nat → Nat → Int32} {a : Nat} {F1 F2 : Nat → Int32} {p0 n : Int32} (ha : 0 < a ∧ a < 19) : va_up (entS (va_up S a F1) p0 n) a F2 = va_up (entS S p0 n) a F2 := by
  have h0 : (0 : Nat) ≠ a := by omega
  have h19 : (19 : Nat) ≠ a := by omega
  have h20 : (20 : Nat) ≠ a := by omega
  have h21 : (21 : Nat) ≠ a := by omega
  have h22 : (22 : Nat) ≠ a := by omega
  have h23 : (23 : Nat) ≠ a := by omega
  have h24 : (24 : Nat) ≠ a := by omega
  unfold entS
  rw [va_n (S := S) (F := F1) h0, va_n (S := S) (F := F1) h19, va_n (S := S) (F := F1) h20, va_n (S := S) (F := F1) h21, va_n (S := S) (F := F1) h22, va_n (S := S) (F := F1) h23, va_n (S := S) (F := F1) h24]
  rw [va_com a 19 h19.symm, va_com a 22 h22.symm, va_com a 20 h20.symm, va_com a 23 h23.symm, va_com a 21 h21.symm, va_com a 24 h24.symm, va_va]
theorem kRel.enterC {T : Int} {S : Nat → Nat → Int32} {j : Int64} {w : Nat → Int64} {a : Nat} {F : Nat → Int32} (h : kRel T (va_up S a F) j w) (ha : 0 < a ∧ a < 19) (f : Nat → Int32) {p0 n : Int32} {b : Int64} (hk : (1000 * p0).toInt64 = 1000 * p0.toInt64) (hb : b = n.toInt64) : kRel T (va_up (entS S p0 n) a F) (31 * j + (1000 * p0).toInt64 + n.toInt64) (s_X11_enter f w p0 b) := by
  have k := (h.enter f hk hb).sel a
  have e : entS (va_up S a F) p0 n a = F := (entS_lo (Or.inl ha.2)).trans va_s
  rw [e, ent_com ha] at k
  exact k
/-! results -/
def resS (S : Nat → Nat → Int32) (p : Int32) : Nat → Nat → Int32 := va_up (va_up (va_up (va_up (va_up (va_up (va_up (va_up S 11 (s_X3_add 16 (S 11) (S 15) (S 5 2)).1) 15 (s_X3_add 16 (S 11) (S 15) (S 5 2)).2) 12 (s_X3_add 16 (S 12) (S 16) (S 5 3)).1) 16 (s_X3_add 16 (S 12) (S 16) (S 5 3)).2) 13 (s_X3_add 16 (S 13) (S 17) (p - (S 5 7))).1) 17 (s_X3_add 16 (S 13) (S 17) (p - (S 5 7))).2) 14 (s_X3_add 16 (S 14) (S 18) (S 5 6)).1) 18 (s_X3_add 16 (S 14) (S 18) (S 5 6)).2
theorem resS_lo {S : Nat → Nat → Int32} {p : Int32} {a : Nat} (h : a < 11 ∨ 19 ≤ a) : resS S p a = S a := by
  unfold resS va_up
  rw [if_neg (by omega), if_neg (by omega), if_neg (by omega), if_neg (by omega), if_neg (by omega), if_neg (by omega), if_neg (by omega), if_neg (by omega)]
theorem kr_key {x : Nat → Int64} {m : Nat} (hm : m < 16) (hx : x 45 = (nI m).toInt64) (k : Nat) : s_X11_keepResult_3 x k = if k = 45 then x 45 + 1 else if k = 98 + 4 * m + 3 then x 41 else if k = 98 + 4 * m + 2 then x 32 + 1 - x 42 else if k = 98 + 4 * m + 1 then x 36 else if k = 98 + 4 * m then x 35 else x k := by
  have e : (98 : Int32) + 4 * (Int64.toInt32 (x 45)) = nI (98 + 4 * m) := by
    rw [hx, nIL_back]
    refine nI_kin ?_ (by omega)
    have a := kIn.add (kIn.lit (x := 98) (n := 98) (by decide)) (kIn.mul (x := 4) (n := 4) (by decide) (by decide) (kIx (n := m) (by omega)) (by omega) (by omega)) (by omega) (by omega)
    exact ⟨by have := a.1; omega, by have := a.2; omega⟩
  have e1 : (98 : Int32) + 4 * (Int64.toInt32 (x 45)) + 1 = nI (98 + 4 * m + 1) := by rw [e, nI_succ]
  have e2 : (98 : Int32) + 4 * (Int64.toInt32 (x 45)) + 2 = nI (98 + 4 * m + 2) := by rw [e]; exact nI_2 _
  have e3 : (98 : Int32) + 4 * (Int64.toInt32 (x 45)) + 3 = nI (98 + 4 * m + 3) := by rw [e]; exact nI_3 _
  unfold s_X11_keepResult_3
  rw [e1, e2, e3, e, nI_clamp (by omega), nI_clamp (by omega), nI_clamp (by omega), nI_clamp (by omega)]
  unfold vp_updL
  rfl
theorem kRel.result {T : Int} {S : Nat → Nat → Int32} {j : Int64} {w : Nat → Int64} (h : kRel T S j w) (f : Nat → Int32) {p : Int32} (hp : w 32 + 1 - w 42 = (p - S 5 7).toInt64) : kRel T (resS S p) j (s_X11_keepResult f w) := by
  obtain ⟨a1, a2, ⟨r1, r2, r3, r4⟩, ⟨e1, e2, e3⟩, b1, b2, c⟩ := h
  have h45 := r1.many (by decide)
  have h35 : w 35 = (S 5 2).toInt64 := (a1 35 (by decide)).1
  have h36 : w 36 = (S 5 3).toInt64 := (a1 36 (by decide)).1
  have h41 : w 41 = (S 5 6).toInt64 := (a1 41 (by decide)).1
  have fr := fr_X11_keepResult f w h45
  have ex : ∃ m : Nat, m < 16 ∧ j_X11_keepResult_2 w 45 = (nI m).toInt64 := by
    have k := kr_pre45 h45
    refine ⟨(j_X11_keepResult_2 w 45).toInt.toNat, by have := k.1; have := k.2; omega, Int64.toInt_inj.mp ?_⟩
    have := k.1; have := k.2
    rw [nIL (by omega)]
    omega
  obtain ⟨m, hm, xm⟩ := ex
  have key := kr_key hm xm
  have xo : ∀ k : Nat, k < 98 → k ≠ 45 → j_X11_keepResult_2 w k = w k := fun k h1 h2 => by
    rw [kr_pre]
    by_cases c : w 45 = 16
    · rw [if_pos c, if_neg h2, if_neg (by omega)]
    · rw [if_neg c]
  have W45 : s_X11_keepResult f w 45 = j_X11_keepResult_2 w 45 + 1 := (key 45).trans (if_pos rfl)
  have st : ∀ (d : Nat) (g cells : Nat → Int32) (xv : Int32), d < 4 → rgR 16 g cells (w 45) (fun i => w (98 + 4 * i + d)) → (if d = 0 then w 35 else if d = 1 then w 36 else if d = 2 then w 32 + 1 - w 42 else w 41) = xv.toInt64 → rgR 16 (s_X3_add 16 g cells xv).1 (s_X3_add 16 g cells xv).2 (s_X11_keepResult f w 45) (fun i => s_X11_keepResult f w (98 + 4 * i + d)) := by
    intro d g cells xv hd hr hv
    refine rg_store (x := j_X11_keepResult_2 w) hr (by decide) (by decide) hd (fun k => kr_pre w k) W45 (fun m2 hx2 hm2 => ?_)
    have em : m2 = m := nIL_inj (by omega) (by omega) (hx2.symm.trans xm)
    subst em
    refine ⟨fun i hi hne => ?_, ?_⟩
    · refine (key (98 + 4 * i + d)).trans ?_
      rw [if_neg (by omega), if_neg (by omega), if_neg (by omega), if_neg (by omega), if_neg (by omega)]
    · refine (key (98 + 4 * m2 + d)).trans ?_
      rw [← hv, if_neg (by omega), xo 41 (by decide) (by decide), xo 32 (by decide) (by decide), xo 42 (by decide) (by decide), xo 36 (by decide) (by decide), xo 35 (by decide) (by decide)]
      match d, hd with
      | 0, _ => rw [if_neg (by omega), if_neg (by omega), if_neg (by omega), if_pos rfl, if_pos (by omega)]
      | 1, _ => rw [if_neg (by omega), if_neg (by omega), if_pos rfl, if_neg (by decide), if_pos rfl]
      | 2, _ => rw [if_neg (by omega), if_pos rfl, if_neg (by decide), if_neg (by decide), if_pos rfl]
      | 3, _ => rw [if_pos rfl, if_neg (by decide), if_neg (by decide), if_neg (by decide)]
      | n + 4, hd => omega
  refine ⟨fun k hk => ?_, fun k hk => ?_, ⟨?_, ?_, ?_, ?_⟩, ⟨?_, ?_, ?_⟩, ?_, fun i hi => ?_, ?_⟩
  · have := rA_le k hk
    unfold rS
    rw [resS_lo (by omega), fr k (by omega)]
    exact a1 k hk
  · rw [resS_lo (by decide)] at hk
    have b43 : (S 4 1).toInt ≤ 12 := (a1 43 (by decide)).2.2
    rw [resS_lo (by decide), fr _ (by omega)]
    exact a2 k hk
  · exact st 0 (S 11) (S 15) (S 5 2) (by decide) r1 (by rw [if_pos rfl]; exact h35)
  · exact st 1 (S 12) (S 16) (S 5 3) (by decide) r2 (by rw [if_neg (by decide), if_pos rfl]; exact h36)
  · exact st 2 (S 13) (S 17) _ (by decide) r3 (by rw [if_neg (by decide), if_neg (by decide), if_pos rfl]; exact hp)
  · exact st 3 (S 14) (S 18) (S 5 6) (by decide) r4 (by rw [if_neg (by decide), if_neg (by decide), if_neg (by decide)]; exact h41)
  · exact e1.cg (resS_lo (by decide)) (resS_lo (by decide)) (fr 46 (by decide)) (fun i hi => fr _ (by omega))
  · exact e2.cg (resS_lo (by decide)) (resS_lo (by decide)) (fr 46 (by decide)) (fun i hi => fr _ (by omega))
  · exact e3.cg (resS_lo (by decide)) (resS_lo (by decide)) (fr 46 (by decide)) (fun i hi => fr _ (by omega))
  · exact b1.cg (resS_lo (by decide)) (resS_lo (by decide)) (fr 48 (by decide)) (fun i hi => fr _ (by omega))
  · rw [fr 48 (by decide)] at hi
    rw [fr _ (by omega)]; exact b2 i hi
  · rw [fr 47 (by decide)]; exact c
theorem entS_19 {S : Nat → Nat → Int32} {p0 n : Int32} : entS S p0 n 19 = (s_X3_add 24 (S 19) (S 22) p0).1 := by
  unfold entS
  rw [va_n (show (19 : Nat) ≠ 24 by decide), va_n (show (19 : Nat) ≠ 21 by decide), va_n (show (19 : Nat) ≠ 23 by decide), va_n (show (19 : Nat) ≠ 20 by decide), va_n (show (19 : Nat) ≠ 22 by decide), va_s]
theorem entS_22 {S : Nat → Nat → Int32} {p0 n : Int32} : entS S p0 n 22 = (s_X3_add 24 (S 19) (S 22) p0).2 := by
  unfold entS
  rw [va_n (show (22 : Nat) ≠ 24 by decide), va_n (show (22 : Nat) ≠ 21 by decide), va_n (show (22 : Nat) ≠ 23 by decide), va_n (show (22 : Nat) ≠ 20 by decide), va_s]
theorem entS_20 {S : Nat → Nat → Int32} {p0 n : Int32} : entS S p0 n 20 = (s_X3_add 24 (S 20) (S 23) n).1 := by
  unfold entS
  rw [va_n (show (20 : Nat) ≠ 24 by decide), va_n (show (20 : Nat) ≠ 21 by decide), va_n (show (20 : Nat) ≠ 23 by decide), va_s]
theorem entS_23 {S : Nat → Nat → Int32} {p0 n : Int32} : entS S p0 n 23 = (s_X3_add 24 (S 20) (S 23) n).2 := by
  unfold entS
  rw [va_n (show (23 : Nat) ≠ 24 by decide), va_n (show (23 : Nat) ≠ 21 by decide), va_s]
theorem entS_21 {S : Nat → Nat → Int32} {p0 n : Int32} : entS S p0 n 21 = (s_X3_add 24 (S 21) (S 24) (S 0 0)).1 := by
  unfold entS
  rw [va_n (show (21 : Nat) ≠ 24 by decide), va_s]
theorem entS_24 {S : Nat → Nat → Int32} {p0 n : Int32} : entS S p0 n 24 = (s_X3_add 24 (S 21) (S 24) (S 0 0)).2 := by
  unfold entS
  rw [va_s]
theorem resS_11 {S : Nat → Nat → Int32} {p : Int32} : resS S p 11 = (s_X3_add 16 (S 11) (S 15) (S 5 2)).1 := by
  unfold resS
  rw [va_n (show (11 : Nat) ≠ 18 by decide), va_n (show (11 : Nat) ≠ 14 by decide), va_n (show (11 : Nat) ≠ 17 by decide), va_n (show (11 : Nat) ≠ 13 by decide), va_n (show (11 : Nat) ≠ 16 by decide), va_n (show (11 : Nat) ≠ 12 by decide), va_n (show (11 : Nat) ≠ 15 by decide), va_s]
theorem resS_15 {S : Nat → Nat → Int32} {p : Int32} : resS S p 15 = (s_X3_add 16 (S 11) (S 15) (S 5 2)).2 := by
  unfold resS
  rw [va_n (show (15 : Nat) ≠ 18 by decide), va_n (show (15 : Nat) ≠ 14 by decide), va_n (show (15 : Nat) ≠ 17 by decide), va_n (show (15 : Nat) ≠ 13 by decide), va_n (show (15 : Nat) ≠ 16 by decide), va_n (show (15 : Nat) ≠ 12 by decide), va_s]
theorem resS_12 {S : Nat → Nat → Int32} {p : Int32} : resS S p 12 = (s_X3_add 16 (S 12) (S 16) (S 5 3)).1 := by
  unfold resS
  rw [va_n (show (12 : Nat) ≠ 18 by decide), va_n (show (12 : Nat) ≠ 14 by decide), va_n (show (12 : Nat) ≠ 17 by decide), va_n (show (12 : Nat) ≠ 13 by decide), va_n (show (12 : Nat) ≠ 16 by decide), va_s]
theorem resS_16 {S : Nat → Nat → Int32} {p : Int32} : resS S p 16 = (s_X3_add 16 (S 12) (S 16) (S 5 3)).2 := by
  unfold resS
  rw [va_n (show (16 : Nat) ≠ 18 by decide), va_n (show (16 : Nat) ≠ 14 by decide), va_n (show (16 : Nat) ≠ 17 by decide), va_n (show (16 : Nat) ≠ 13 by decide), va_s]
theorem resS_13 {S : Nat → Nat → Int32} {p : Int32} : resS S p 13 = (s_X3_add 16 (S 13) (S 17) (p - (S 5 7))).1 := by
  unfold resS
  rw [va_n (show (13 : Nat) ≠ 18 by decide), va_n (show (13 : Nat) ≠ 14 by decide), va_n (show (13 : Nat) ≠ 17 by decide), va_s]
theorem resS_17 {S : Nat → Nat → Int32} {p : Int32} : resS S p 17 = (s_X3_add 16 (S 13) (S 17) (p - (S 5 7))).2 := by
  unfold resS
  rw [va_n (show (17 : Nat) ≠ 18 by decide), va_n (show (17 : Nat) ≠ 14 by decide), va_s]
theorem resS_14 {S : Nat → Nat → Int32} {p : Int32} : resS S p 14 = (s_X3_add 16 (S 14) (S 18) (S 5 6)).1 := by
  unfold resS
  rw [va_n (show (14 : Nat) ≠ 18 by decide), va_s]
theorem resS_18 {S : Nat → Nat → Int32} {p : Int32} : resS S p 18 = (s_X3_add 16 (S 14) (S 18) (S 5 6)).2 := by
  unfold resS
  rw [va_s]
theorem wr_eq (S : Nat → Nat → Int32) (j : Int64) (p0 n : Int32) : s_X9_write j (S 19) (S 22) (S 20) (S 23) (S 21) (S 24) p0 n (S 0 0) = (31 * j + (1000 * p0).toInt64 + n.toInt64, entS S p0 n 19, entS S p0 n 22, entS S p0 n 20, entS S p0 n 23, entS S p0 n 21, entS S p0 n 24) := by
  unfold s_X9_write s_X9_write_3 s_X9_write_2 s_X9_write_1
  rw [entS_19, entS_22, entS_20, entS_23, entS_21, entS_24]
theorem rs_eq (S : Nat → Nat → Int32) (p : Int32) : s_X2_add (S 5) (S 11) (S 15) (S 12) (S 16) (S 13) (S 17) (S 14) (S 18) p = (resS S p 11, resS S p 15, resS S p 12, resS S p 16, resS S p 13, resS S p 17, resS S p 14, resS S p 18) := by
  unfold s_X2_add s_X2_add_4 s_X2_add_3 s_X2_add_2 s_X2_add_1
  rw [resS_11, resS_15, resS_12, resS_16, resS_13, resS_17, resS_14, resS_18]
