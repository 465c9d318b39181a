/-! a program's steps -/
abbrev k16 : Type := (Nat → Int32) × Int64 × (Nat → Int32) × (Nat → Int32) × (Nat → Int32) × (Nat → Int32) × (Nat → Int32) × (Nat → Int32) × (Nat → Int32) × (Nat → Int32) × (Nat → Int32) × (Nat → Int32) × (Nat → Int32) × (Nat → Int32) × (Nat → Int32) × (Nat → Int32)
def fpS (S : Nat → Nat → Int32) (r : k16) : Nat → Nat → Int32 := (va_up (va_up (va_up (va_up (va_up (va_up (va_up (va_up (va_up (va_up (va_up (va_up (va_up (va_up (va_up S 5 r.1) 19 r.2.2.1) 22 r.2.2.2.1) 20 r.2.2.2.2.1) 23 r.2.2.2.2.2.1) 21 r.2.2.2.2.2.2.1) 24 r.2.2.2.2.2.2.2.1) 11 r.2.2.2.2.2.2.2.2.1) 15 r.2.2.2.2.2.2.2.2.2.1) 12 r.2.2.2.2.2.2.2.2.2.2.1) 16 r.2.2.2.2.2.2.2.2.2.2.2.1) 13 r.2.2.2.2.2.2.2.2.2.2.2.2.1) 17 r.2.2.2.2.2.2.2.2.2.2.2.2.2.1) 14 r.2.2.2.2.2.2.2.2.2.2.2.2.2.2.1) 18 r.2.2.2.2.2.2.2.2.2.2.2.2.2.2.2)
theorem fpS_5 {S : Nat → Nat → Int32} {r : k16} : fpS S r 5 = r.1 := by
  unfold fpS
  rw [va_n (show (5 : Nat) ≠ 18 by decide), va_n (show (5 : Nat) ≠ 14 by decide), va_n (show (5 : Nat) ≠ 17 by decide), va_n (show (5 : Nat) ≠ 13 by decide), va_n (show (5 : Nat) ≠ 16 by decide), va_n (show (5 : Nat) ≠ 12 by decide), va_n (show (5 : Nat) ≠ 15 by decide), va_n (show (5 : Nat) ≠ 11 by decide), va_n (show (5 : Nat) ≠ 24 by decide), va_n (show (5 : Nat) ≠ 21 by decide), va_n (show (5 : Nat) ≠ 23 by decide), va_n (show (5 : Nat) ≠ 20 by decide), va_n (show (5 : Nat) ≠ 22 by decide), va_n (show (5 : Nat) ≠ 19 by decide), va_s]
theorem fpS_19 {S : Nat → Nat → Int32} {r : k16} : fpS S r 19 = r.2.2.1 := by
  unfold fpS
  rw [va_n (show (19 : Nat) ≠ 18 by decide), va_n (show (19 : Nat) ≠ 14 by decide), va_n (show (19 : Nat) ≠ 17 by decide), va_n (show (19 : Nat) ≠ 13 by decide), va_n (show (19 : Nat) ≠ 16 by decide), va_n (show (19 : Nat) ≠ 12 by decide), va_n (show (19 : Nat) ≠ 15 by decide), va_n (show (19 : Nat) ≠ 11 by decide), va_n (show (19 : Nat) ≠ 24 by decide), va_n (show (19 : Nat) ≠ 21 by decide), va_n (show (19 : Nat) ≠ 23 by decide), va_n (show (19 : Nat) ≠ 20 by decide), va_n (show (19 : Nat) ≠ 22 by decide), va_s]
theorem fpS_22 {S : Nat → Nat → Int32} {r : k16} : fpS S r 22 = r.2.2.2.1 := by
  unfold fpS
  rw [va_n (show (22 : Nat) ≠ 18 by decide), va_n (show (22 : Nat) ≠ 14 by decide), va_n (show (22 : Nat) ≠ 17 by decide), va_n (show (22 : Nat) ≠ 13 by decide), va_n (show (22 : Nat) ≠ 16 by decide), va_n (show (22 : Nat) ≠ 12 by decide), va_n (show (22 : Nat) ≠ 15 by decide), va_n (show (22 : Nat) ≠ 11 by decide), va_n (show (22 : Nat) ≠ 24 by decide), va_n (show (22 : Nat) ≠ 21 by decide), va_n (show (22 : Nat) ≠ 23 by decide), va_n (show (22 : Nat) ≠ 20 by decide), va_s]
theorem fpS_20 {S : Nat → Nat → Int32} {r : k16} : fpS S r 20 = r.2.2.2.2.1 := by
  unfold fpS
  rw [va_n (show (20 : Nat) ≠ 18 by decide), va_n (show (20 : Nat) ≠ 14 by decide), va_n (show (20 : Nat) ≠ 17 by decide), va_n (show (20 : Nat) ≠ 13 by decide), va_n (show (20 : Nat) ≠ 16 by decide), va_n (show (20 : Nat) ≠ 12 by decide), va_n (show (20 : Nat) ≠ 15 by decide), va_n (show (20 : Nat) ≠ 11 by decide), va_n (show (20 : Nat) ≠ 24 by decide), va_n (show (20 : Nat) ≠ 21 by decide), va_n (show (20 : Nat) ≠ 23 by decide), va_s]
theorem fpS_23 {S : Nat → Nat → Int32} {r : k16} : fpS S r 23 = r.2.2.2.2.2.1 := by
  unfold fpS
  rw [va_n (show (23 : Nat) ≠ 18 by decide), va_n (show (23 : Nat) ≠ 14 by decide), va_n (show (23 : Nat) ≠ 17 by decide), va_n (show (23 : Nat) ≠ 13 by decide), va_n (show (23 : Nat) ≠ 16 by decide), va_n (show (23 : Nat) ≠ 12 by decide), va_n (show (23 : Nat) ≠ 15 by decide), va_n (show (23 : Nat) ≠ 11 by decide), va_n (show (23 : Nat) ≠ 24 by decide), va_n (show (23 : Nat) ≠ 21 by decide), va_s]
theorem fpS_21 {S : Nat → Nat → Int32} {r : k16} : fpS S r 21 = r.2.2.2.2.2.2.1 := by
  unfold fpS
  rw [va_n (show (21 : Nat) ≠ 18 by decide), va_n (show (21 : Nat) ≠ 14 by decide), va_n (show (21 : Nat) ≠ 17 by decide), va_n (show (21 : Nat) ≠ 13 by decide), va_n (show (21 : Nat) ≠ 16 by decide), va_n (show (21 : Nat) ≠ 12 by decide), va_n (show (21 : Nat) ≠ 15 by decide), va_n (show (21 : Nat) ≠ 11 by decide), va_n (show (21 : Nat) ≠ 24 by decide), va_s]
theorem fpS_24 {S : Nat → Nat → Int32} {r : k16} : fpS S r 24 = r.2.2.2.2.2.2.2.1 := by
  unfold fpS
  rw [va_n (show (24 : Nat) ≠ 18 by decide), va_n (show (24 : Nat) ≠ 14 by decide), va_n (show (24 : Nat) ≠ 17 by decide), va_n (show (24 : Nat) ≠ 13 by decide), va_n (show (24 : Nat) ≠ 16 by decide), va_n (show (24 : Nat) ≠ 12 by decide), va_n (show (24 : Nat) ≠ 15 by decide), va_n (show (24 : Nat) ≠ 11 by decide), va_s]
theorem fpS_11 {S : Nat → Nat → Int32} {r : k16} : fpS S r 11 = r.2.2.2.2.2.2.2.2.1 := by
  unfold fpS
  rw [va_n (show (11 : Nat) ≠ 18 by decide), va_n (show (11 : Nat) ≠ 14 by decide), va_n (show (11 : Nat) ≠ 17 by decide), va_n (show (11 : Nat) ≠ 13 by decide), va_n (show (11 : Nat) ≠ 16 by decide), va_n (show (11 : Nat) ≠ 12 by decide), va_n (show (11 : Nat) ≠ 15 by decide), va_s]
theorem fpS_15 {S : Nat → Nat → Int32} {r : k16} : fpS S r 15 = r.2.2.2.2.2.2.2.2.2.1 := by
  unfold fpS
  rw [va_n (show (15 : Nat) ≠ 18 by decide), va_n (show (15 : Nat) ≠ 14 by decide), va_n (show (15 : Nat) ≠ 17 by decide), va_n (show (15 : Nat) ≠ 13 by decide), va_n (show (15 : Nat) ≠ 16 by decide), va_n (show (15 : Nat) ≠ 12 by decide), va_s]
theorem fpS_12 {S : Nat → Nat → Int32} {r : k16} : fpS S r 12 = r.2.2.2.2.2.2.2.2.2.2.1 := by
  unfold fpS
  rw [va_n (show (12 : Nat) ≠ 18 by decide), va_n (show (12 : Nat) ≠ 14 by decide), va_n (show (12 : Nat) ≠ 17 by decide), va_n (show (12 : Nat) ≠ 13 by decide), va_n (show (12 : Nat) ≠ 16 by decide), va_s]
theorem fpS_16 {S : Nat → Nat → Int32} {r : k16} : fpS S r 16 = r.2.2.2.2.2.2.2.2.2.2.2.1 := by
  unfold fpS
  rw [va_n (show (16 : Nat) ≠ 18 by decide), va_n (show (16 : Nat) ≠ 14 by decide), va_n (show (16 : Nat) ≠ 17 by decide), va_n (show (16 : Nat) ≠ 13 by decide), va_s]
theorem fpS_13 {S : Nat → Nat → Int32} {r : k16} : fpS S r 13 = r.2.2.2.2.2.2.2.2.2.2.2.2.1 := by
  unfold fpS
  rw [va_n (show (13 : Nat) ≠ 18 by decide), va_n (show (13 : Nat) ≠ 14 by decide), va_n (show (13 : Nat) ≠ 17 by decide), va_s]
theorem fpS_17 {S : Nat → Nat → Int32} {r : k16} : fpS S r 17 = r.2.2.2.2.2.2.2.2.2.2.2.2.2.1 := by
  unfold fpS
  rw [va_n (show (17 : Nat) ≠ 18 by decide), va_n (show (17 : Nat) ≠ 14 by decide), va_s]
theorem fpS_14 {S : Nat → Nat → Int32} {r : k16} : fpS S r 14 = r.2.2.2.2.2.2.2.2.2.2.2.2.2.2.1 := by
  unfold fpS
  rw [va_n (show (14 : Nat) ≠ 18 by decide), va_s]
theorem fpS_18 {S : Nat → Nat → Int32} {r : k16} : fpS S r 18 = r.2.2.2.2.2.2.2.2.2.2.2.2.2.2.2 := by
  unfold fpS
  rw [va_s]
theorem fpS_lo {S : Nat → Nat → Int32} {r : k16} {a : Nat} (h : a ≠ 5 ∧ a ≠ 19 ∧ a ≠ 22 ∧ a ≠ 20 ∧ a ≠ 23 ∧ a ≠ 21 ∧ a ≠ 24 ∧ a ≠ 11 ∧ a ≠ 15 ∧ a ≠ 12 ∧ a ≠ 16 ∧ a ≠ 13 ∧ a ≠ 17 ∧ a ≠ 14 ∧ a ≠ 18) : fpS S r a = S a := by
  unfold fpS
  rw [va_n (show a ≠ 18 by omega), va_n (show a ≠ 14 by omega), va_n (show a ≠ 17 by omega), va_n (show a ≠ 13 by omega), va_n (show a ≠ 16 by omega), va_n (show a ≠ 12 by omega), va_n (show a ≠ 15 by omega), va_n (show a ≠ 11 by omega), va_n (show a ≠ 24 by omega), va_n (show a ≠ 21 by omega), va_n (show a ≠ 23 by omega), va_n (show a ≠ 20 by omega), va_n (show a ≠ 22 by omega), va_n (show a ≠ 19 by omega), va_n (show a ≠ 5 by omega)]
theorem kRel.cgA {T : Int} {S S2 : Nat → Nat → Int32} {j : Int64} {w : Nat → Int64} (h : kRel T S j w) (e : ∀ a : Nat, a < 26 → S2 a = S a) : kRel T S2 j w :=
  h.cg (fun k hk => ⟨by unfold rS; rw [e _ (by have := rA_le k hk; omega)], rfl⟩) (fun a _ ha => e a ha) (fun _ _ _ => rfl) rfl
theorem upd_com (a b : Nat) (h : a ≠ b) {F : Nat → Int32} {x y : Int32} : upd (upd F a x) b y = upd (upd F b y) a x := by
  funext c
  unfold upd
  by_cases h1 : c = a
  · rw [if_neg (fun z => h (h1.symm.trans z)), if_pos h1, if_pos h1]
  · rw [if_neg h1]
    by_cases h2 : c = b
    · rw [if_pos h2, if_neg h1]
    · rw [if_neg h2, if_neg h1]
theorem upd_self {F : Nat → Int32} {a : Nat} : upd F a (F a) = F := by
  funext c
  unfold upd
  by_cases h : c = a
  · rw [if_pos h, h]
  · rw [if_neg h]
theorem kIe {i : Nat} (h : i < 12) : kE (nI i).toInt64 (nI i) 0 11 := ⟨by rw [nIL (by omega), nI_toInt (by omega)], by rw [nI_toInt (by omega)]; omega, by rw [nI_toInt (by omega)]; omega⟩
def bgR (S : Nat → Nat → Int32) (j : Int64) (F : Nat → Int32) (p0 p1 p2 : Int32) : (Nat → Int32) × Int64 × (Nat → Int32) × (Nat → Int32) × (Nat → Int32) × (Nat → Int32) × (Nat → Int32) × (Nat → Int32) := s_X7_beginSegment (S 0) F (S 6) (S 4) (S 10) j (S 19) (S 22) (S 20) (S 23) (S 21) (S 24) p0 p1 p2
theorem kRel.begin {T : Int} {S : Nat → Nat → Int32} {j : Int64} {w : Nat → Int64} {F : Nat → Int32} {p1 : Int32} (h : kRel T (va_up S 5 (upd F 3 p1)) j w) (hs : kSg w) (f : Nat → Int32) {i : Nat} (hi : (i : Int) < (S 4 1).toInt) {t : Int64} {tt : Int32} (ht : kE t tt 0 T) : kRel T (va_up (entS S 2 (nI i)) 5 (bgR S j F (nI i) p1 tt).1) (31 * j + (1000 * 2 : Int32).toInt64 + (nI i).toInt64) (s_X11_begin f w (nI i).toInt64 t) ∧ kRn 0 (s_X11_begin f w (nI i).toInt64 t) := by
  have h43 : kE (w 43) (S 4 1) 0 12 := h.e 43 (by decide)
  have hi12 : i < 12 := by have := h43.2.2; omega
  have s2 : kE (w (50 + 4 * i + 2)) (S 10 (4 * i + 2)) 0 500 := h.sg hi (d := 2) (by decide)
  have k1 := h.set2 35 (by decide) (by decide) rfl (kIe hi12) (by decide) (Int.le_refl _)
  have k2 := k1.set2 37 (by decide) (by decide) rfl (h.e 12 (by decide)) (Int.le_refl _) (Int.le_refl _)
  have k3 := k2.set2 38 (by decide) (by decide) rfl (h.e 13 (by decide)) (Int.le_refl _) (Int.le_refl _)
  have k4 := k3.set2 39 (by decide) (by decide) rfl kE0 (by decide) (show (0 : Int) ≤ 500 by decide)
  have k5 := k4.set2 40 (by decide) (by decide) rfl kE0 (by decide) (show (0 : Int) ≤ 500 by decide)
  have hT0 : 0 ≤ T := Int.le_trans ht.2.1 ht.2.2
  have k6 := k5.set2 41 (by decide) (by decide) rfl kE0 (by decide) hT0
  have k7 := k6.set2 42 (by decide) (by decide) rfl ht (by decide) (Int.le_refl _)
  unfold s_X11_begin s_X11_begin_3 s_X11_begin_2 s_X11_begin_1
  generalize hW : (vp_updL (vp_updL (vp_updL (vp_updL (vp_updL (vp_updL (vp_updL w 35 (nI i).toInt64) 37 (w 12)) 38 (w 13)) 39 0) 40 0) 41 0) 42 t) = W at k7 ⊢
  have fr : ∀ k : Nat, k ≠ 35 ∧ k ≠ 37 ∧ k ≠ 38 ∧ k ≠ 39 ∧ k ≠ 40 ∧ k ≠ 41 ∧ k ≠ 42 → W k = w k := by
    intro k hk
    rw [← hW]
    exact upnL hk.2.2.2.2.2.2 (upnL hk.2.2.2.2.2.1 (upnL hk.2.2.2.2.1 (upnL hk.2.2.2.1 (upnL hk.2.2.1 (upnL hk.2.1 (upnL hk.1 rfl))))))
  have h35 : W 35 = (nI i).toInt64 := by
    rw [← hW]
    exact upnL (by decide) (upnL (by decide) (upnL (by decide) (upnL (by decide) (upnL (by decide) (upnL (by decide) upsL)))))
  have h39 : W 39 = 0 := by
    rw [← hW]
    exact upnL (by decide) (upnL (by decide) (upnL (by decide) upsL))
  have h40 : W 40 = 0 := by
    rw [← hW]
    exact upnL (by decide) (upnL (by decide) upsL)
  have h41 : W 41 = 0 := by
    rw [← hW]
    exact upnL (by decide) upsL
  have o2 : s_X11_of_p0_2 f W = w (50 + 4 * i + 2) := (of2_at hi12 h35).trans (fr _ (by omega))
  rw [o2]
  have ez : (w (50 + 4 * i + 2) ≤ 0) = (S 10 (4 * i + 2) ≤ 0) := kE.le s2 kE0
  have e2 : kE 2 2 2 2 := kE.lit (by decide) (by decide)
  have x33 : kE (if w (50 + 4 * i + 2) ≤ 0 then 2 else 1) (if S 10 (4 * i + 2) ≤ 0 then 2 else 1) 1 2 := kE.ite ez (fun _ => e2.wk (by decide) (by decide)) (fun _ => kE1.wk (by decide) (by decide))
  have k8 := k7.set2 33 (by decide) (by decide) rfl x33 (by decide) (show (2 : Int) ≤ 4 by decide)
  have k9 := k8.enterC (by decide) f (p0 := 2) (n := nI i) (b := (nI i).toInt64) (by decide) rfl
  have h46 : kInL ((vp_updL W 33 (if w (50 + 4 * i + 2) ≤ 0 then 2 else 1)) 46) 0 24 := k8.2.2.2.1.1.many (by decide)
  refine ⟨?_, ?_⟩
  · have q2 : s_X6_property (S 4) (S 10) (nI i) 2 = S 10 (4 * i + 2) := sg_prop hi12 (by decide) rfl rfl
    unfold bgR s_X7_beginSegment s_X7_beginSegment_2 s_X7_beginSegment_1
    rw [q2]
    show kRel T (va_up (entS S 2 (nI i)) 5 (upd (upd (upd (upd (upd (upd (upd (upd (upd F 2 (nI i)) 3 p1) 7 tt) 8 (S 6 0)) 9 (S 6 1)) 4 0) 5 0) 6 0) 0 (if S 10 (4 * i + 2) ≤ 0 then 2 else 1))) _ _
    rw [upd_com 2 3 (by decide), upd_com 7 8 (by decide), upd_com 7 9 (by decide), upd_com 7 4 (by decide), upd_com 7 5 (by decide), upd_com 7 6 (by decide)]
    exact k9
  · generalize hV : vp_updL W 33 (if w (50 + 4 * i + 2) ≤ 0 then 2 else 1) = V at h46 ⊢
    have fe := fr_X11_enter f V 2 (nI i).toInt64 h46
    have V33 : V 33 = if w (50 + 4 * i + 2) ≤ 0 then 2 else 1 := by rw [← hV]; exact upsL
    have Vn : ∀ k : Nat, k ≠ 33 → V k = W k := fun k hk => by rw [← hV]; exact upnL hk rfl
    refine ⟨fun i2 hi2 => ?_, fun _ => ⟨i, ?_, ?_, fun z => ?_, fun z => ?_⟩⟩
    · rw [fe 43 (by decide), Vn 43 (by decide), fr 43 (by decide)] at hi2
      have hi3 : i2 < 12 := by have := h43.1; have := h43.2.2; omega
      rw [fe _ (by omega), fe _ (by omega), Vn _ (by omega), Vn _ (by omega), fr _ (by omega), fr _ (by omega)]
      exact hs i2 hi2
    · rw [fe 43 (by decide), Vn 43 (by decide), fr 43 (by decide), h43.1]
      exact hi
    · rw [fe 35 (by decide), Vn 35 (by decide), h35]
    · rw [fe 33 (by decide), V33] at z
      rw [fe 39 (by decide), fe 40 (by decide), fe 41 (by decide), fe _ (by omega), Vn 39 (by decide), Vn 40 (by decide), Vn 41 (by decide), Vn _ (by omega), fr _ (by omega), h39, h40, h41]
      have hp : ¬ w (50 + 4 * i + 2) ≤ 0 := fun y => by
        rw [if_pos y] at z
        exact absurd z (by decide)
      have hp2 := Int64.lt_iff_toInt_lt.mp (kLnle hp)
      rw [show (0 : Int64).toInt = 0 by decide] at hp2 ⊢
      exact ⟨hp2, by omega, rfl, rfl⟩
    · rw [fe 33 (by decide), V33] at z
      rw [fe 40 (by decide), fe (50 + 4 * i + 3) (by omega), Vn 40 (by decide), Vn (50 + 4 * i + 3) (by omega), h40, fr (50 + 4 * i + 3) (by omega)]
      have hp : w (50 + 4 * i + 2) ≤ 0 := by
        by_cases y : w (50 + 4 * i + 2) ≤ 0
        · exact y
        · rw [if_neg y] at z
          exact absurd z (by decide)
      have hp2 := Int64.le_iff_toInt_le.mp hp
      rw [show (0 : Int64).toInt = 0 by decide] at hp2 ⊢
      have := hs i (by rw [h43.1]; exact hi)
      omega
def fsR (S : Nat → Nat → Int32) (j : Int64) : k16 := s_X7_finishSegment (S 0) (S 5) j (S 19) (S 22) (S 20) (S 23) (S 21) (S 24) (S 11) (S 15) (S 12) (S 16) (S 13) (S 17) (S 14) (S 18) (S 4) (S 6) (S 10)
set_option maxHeartbeats 1000000 in
theorem kRel.complete {T : Int} {S : Nat → Nat → Int32} {j : Int64} {w : Nat → Int64} (h : kRel T S j w) (hT : T ≤ 40000) (hs : kSg w) (f : Nat → Int32) {i : Nat} (hi : (i : Int) < (w 43).toInt) (h35 : w 35 = (nI i).toInt64) (ht : (w 32).toInt + 1 ≤ T) : kRel T (fpS S (fsR S j)) (fsR S j).2.1 (s_X11_complete f w) ∧ kRn 0 (s_X11_complete f w) := by
  have h43 : kE (w 43) (S 4 1) 0 12 := h.e 43 (by decide)
  have hi12 : i < 12 := by have := h43.1; have := h43.2.2; omega
  have e32 : kE (w 32) (S 0 0) 0 T := h.e 32 (by decide)
  have e42 : kE (w 42) (S 5 7) 0 T := h.e 42 (by decide)
  have e35 : kE (w 35) (S 5 2) 0 11 := h.e 35 (by decide)
  have e36 : kE (w 36) (S 5 3) 0 20 := h.e 36 (by decide)
  have e44 : kE (w 44) (S 0 1) 1 20 := h.e 44 (by decide)
  have e41 : kE (w 41) (S 5 6) 0 T := h.e 41 (by decide)
  have hT0 : 0 ≤ T := Int.le_trans e32.2.1 e32.2.2
  have t1 : kE (w 32 + 1) (S 0 0 + 1) 0 T := (e32.add kE1 (by decide) (by omega)).bd (by have := (e32.add kE1 (by decide) (by omega)).2.1; omega) (by
    have a := (e32.add kE1 (by decide) (by omega)).1
    rw [Int64.toInt_add, show (1 : Int64).toInt = 1 by decide, kn_bmodL (by have := e32.1; have := e32.2.1; omega) (by have := e32.1; have := e32.2.2; omega)] at a
    omega)
  have hp : w 32 + 1 - w 42 = ((S 0 0 + 1) - S 5 7).toInt64 := (t1.sub e42 (by omega) (by omega)).eq
  have hS52 : S 5 2 = nI i := Int32.toInt_inj.mp (by rw [← e35.1, h35, nIL (by omega), nI_toInt (by omega)])
  have k1 := h.result f hp
  have h45 := h.2.2.1.1.many (by decide)
  have fr1 := fr_X11_keepResult f w h45
  have k2 := k1.enter f (p0 := 3) (n := S 5 6) (b := w 41) (by decide) e41.eq
  have h46 := k1.2.2.2.1.1.many (by decide)
  have fr2 := fr_X11_enter f (s_X11_keepResult f w) 3 (w 41) h46
  unfold s_X11_complete s_X11_complete_5 s_X11_complete_4 s_X11_complete_1 s_X11_complete_2 s_X11_complete_3
  generalize hu : s_X11_enter f (s_X11_keepResult f w) 3 (w 41) = u at k2 fr2 ⊢
  have fr : ∀ k : Nat, k < 98 → k ≠ 45 → k ≠ 46 → k ≠ 47 → u k = w k := fun k a b c d => (fr2 k (by omega)).trans (fr1 k (by omega))
  have hsu : kSg u := fun i2 hi2 => by
    rw [fr 43 (by decide) (by decide) (by decide) (by decide)] at hi2
    have hi3 : i2 < 12 := by have := h43.1; have := h43.2.2; omega
    rw [fr _ (by omega) (by omega) (by omega) (by omega), fr _ (by omega) (by omega) (by omega) (by omega)]
    exact hs i2 hi2
  have z1 : (w 43 ≤ w 35 + 1) = (S 4 1 ≤ S 5 2 + 1) := kE.le h43 (e35.add kE1 (by decide) (by decide))
  have z2 : (w 44 ≤ w 36) = (S 0 1 ≤ S 5 3) := kE.le e44 e36
  unfold fsR s_X7_finishSegment s_X7_finishSegment_6
  have e0 := rs_eq S (S 0 0 + 1)
  have Rlo : ∀ a : Nat, a < 11 ∨ 19 ≤ a → resS S (S 0 0 + 1) a = S a := fun a ha => resS_lo ha
  generalize resS S (S 0 0 + 1) = R1 at k2 e0 Rlo
  have e1 := wr_eq R1 j 3 (S 5 6)
  have Elo : ∀ a : Nat, a < 19 ∨ a = 25 → entS R1 3 (S 5 6) a = R1 a := fun a ha => entS_lo ha
  generalize entS R1 3 (S 5 6) = E1 at k2 e1 Elo
  rw [Rlo 19 (by decide), Rlo 22 (by decide), Rlo 20 (by decide), Rlo 23 (by decide), Rlo 21 (by decide), Rlo 24 (by decide), Rlo 0 (by decide)] at e1
  have ES : ∀ a : Nat, a < 11 ∨ a = 25 → E1 a = S a := fun a ha => (Elo a (by omega)).trans (Rlo a (by omega))
  rw [e0, e1]
  unfold s_X7_finishSegment_5 s_X7_finishSegment_4 s_X7_finishSegment_3 s_X7_finishSegment_2 s_X7_finishSegment_1
  have e1z : E1 0 = S 0 := ES 0 (by decide)
  have E5 : E1 5 = S 5 := ES 5 (by decide)
  by_cases c1 : S 4 1 ≤ S 5 2 + 1
  · rw [if_pos c1, if_pos (pT z1 c1)]
    by_cases c2 : S 0 1 ≤ S 5 3
    · rw [if_pos c2, if_pos (pT z2 c2)]
      have e3 : kE 3 3 3 3 := kE.lit (by decide) (by decide)
      have k2s := k2.sel 5
      rw [E5] at k2s
      have k3 := (k2s.set2 33 (by decide) (by decide) rfl e3 (by decide) (show (3 : Int) ≤ 4 by decide)).set2 34 (by decide) (by decide) rfl kE0 (by decide) (show (0 : Int) ≤ 1 by decide)
      have k4 := k3.enterC (by decide) f (p0 := 4) (n := S 0 1) (b := w 44) (by decide) e44.eq
      have g46 := k3.2.2.2.1.1.many (by decide)
      have e2 := wr_eq E1 (31 * j + (1000 * 3 : Int32).toInt64 + (S 5 6).toInt64) 4 (S 0 1)
      have E2lo : ∀ a : Nat, a < 19 ∨ a = 25 → entS E1 4 (S 0 1) a = E1 a := fun a ha => entS_lo ha
      generalize entS E1 4 (S 0 1) = E2 at k4 e2 E2lo
      rw [e1z] at e2
      rw [e2]
      refine ⟨k4.cgA (fun a ha => ?_), ?_⟩
      · exact
          match a, ha with
          | 0, _ => (fpS_lo (by decide)).trans (((E2lo 0 (by decide)).trans (ES 0 (by decide))).symm.trans (va_n (show (0 : Nat) ≠ 5 by decide)).symm)
          | 1, _ => (fpS_lo (by decide)).trans (((E2lo 1 (by decide)).trans (ES 1 (by decide))).symm.trans (va_n (show (1 : Nat) ≠ 5 by decide)).symm)
          | 2, _ => (fpS_lo (by decide)).trans (((E2lo 2 (by decide)).trans (ES 2 (by decide))).symm.trans (va_n (show (2 : Nat) ≠ 5 by decide)).symm)
          | 3, _ => (fpS_lo (by decide)).trans (((E2lo 3 (by decide)).trans (ES 3 (by decide))).symm.trans (va_n (show (3 : Nat) ≠ 5 by decide)).symm)
          | 4, _ => (fpS_lo (by decide)).trans (((E2lo 4 (by decide)).trans (ES 4 (by decide))).symm.trans (va_n (show (4 : Nat) ≠ 5 by decide)).symm)
          | 5, _ => fpS_5.trans va_s.symm
          | 6, _ => (fpS_lo (by decide)).trans (((E2lo 6 (by decide)).trans (ES 6 (by decide))).symm.trans (va_n (show (6 : Nat) ≠ 5 by decide)).symm)
          | 7, _ => (fpS_lo (by decide)).trans (((E2lo 7 (by decide)).trans (ES 7 (by decide))).symm.trans (va_n (show (7 : Nat) ≠ 5 by decide)).symm)
          | 8, _ => (fpS_lo (by decide)).trans (((E2lo 8 (by decide)).trans (ES 8 (by decide))).symm.trans (va_n (show (8 : Nat) ≠ 5 by decide)).symm)
          | 9, _ => (fpS_lo (by decide)).trans (((E2lo 9 (by decide)).trans (ES 9 (by decide))).symm.trans (va_n (show (9 : Nat) ≠ 5 by decide)).symm)
          | 10, _ => (fpS_lo (by decide)).trans (((E2lo 10 (by decide)).trans (ES 10 (by decide))).symm.trans (va_n (show (10 : Nat) ≠ 5 by decide)).symm)
          | 11, _ => fpS_11.trans (((E2lo 11 (by decide)).trans (Elo 11 (by decide))).symm.trans (va_n (show (11 : Nat) ≠ 5 by decide)).symm)
          | 12, _ => fpS_12.trans (((E2lo 12 (by decide)).trans (Elo 12 (by decide))).symm.trans (va_n (show (12 : Nat) ≠ 5 by decide)).symm)
          | 13, _ => fpS_13.trans (((E2lo 13 (by decide)).trans (Elo 13 (by decide))).symm.trans (va_n (show (13 : Nat) ≠ 5 by decide)).symm)
          | 14, _ => fpS_14.trans (((E2lo 14 (by decide)).trans (Elo 14 (by decide))).symm.trans (va_n (show (14 : Nat) ≠ 5 by decide)).symm)
          | 15, _ => fpS_15.trans (((E2lo 15 (by decide)).trans (Elo 15 (by decide))).symm.trans (va_n (show (15 : Nat) ≠ 5 by decide)).symm)
          | 16, _ => fpS_16.trans (((E2lo 16 (by decide)).trans (Elo 16 (by decide))).symm.trans (va_n (show (16 : Nat) ≠ 5 by decide)).symm)
          | 17, _ => fpS_17.trans (((E2lo 17 (by decide)).trans (Elo 17 (by decide))).symm.trans (va_n (show (17 : Nat) ≠ 5 by decide)).symm)
          | 18, _ => fpS_18.trans (((E2lo 18 (by decide)).trans (Elo 18 (by decide))).symm.trans (va_n (show (18 : Nat) ≠ 5 by decide)).symm)
          | 19, _ => fpS_19.trans (va_n (show (19 : Nat) ≠ 5 by decide)).symm
          | 20, _ => fpS_20.trans (va_n (show (20 : Nat) ≠ 5 by decide)).symm
          | 21, _ => fpS_21.trans (va_n (show (21 : Nat) ≠ 5 by decide)).symm
          | 22, _ => fpS_22.trans (va_n (show (22 : Nat) ≠ 5 by decide)).symm
          | 23, _ => fpS_23.trans (va_n (show (23 : Nat) ≠ 5 by decide)).symm
          | 24, _ => fpS_24.trans (va_n (show (24 : Nat) ≠ 5 by decide)).symm
          | 25, _ => (fpS_lo (by decide)).trans (((E2lo 25 (by decide)).trans (ES 25 (by decide))).symm.trans (va_n (show (25 : Nat) ≠ 5 by decide)).symm)
          | n + 26, h => absurd h (by omega)
      · generalize hV : vp_updL (vp_updL u 33 3) 34 0 = V at g46 ⊢
        have fe := fr_X11_enter f V 4 (w 44) g46
        have V33 : V 33 = 3 := by rw [← hV]; exact upnL (by decide) upsL
        have Vn : ∀ k : Nat, k ≠ 33 → k ≠ 34 → V k = u k := fun k hk hk2 => by rw [← hV]; exact upnL hk2 (upnL hk rfl)
        refine ⟨fun i2 hi2 => ?_, fun z => ?_⟩
        · rw [fe 43 (by decide), Vn 43 (by decide) (by decide)] at hi2
          have hi3 : i2 < 12 := by
            rw [fr 43 (by decide) (by decide) (by decide) (by decide)] at hi2
            have := h43.1; have := h43.2.2; omega
          rw [fe _ (by omega), fe _ (by omega), Vn _ (by omega) (by omega), Vn _ (by omega) (by omega)]
          exact hsu i2 hi2
        · rw [fe 33 (by decide), V33] at z
          exact absurd z (by decide)
    · rw [if_neg c2, if_neg (pTn z2 c2)]
      have c2i : ¬ (S 0 1).toInt ≤ (S 5 3).toInt := fun z => c2 (Int32.le_iff_toInt_le.mpr z)
      have e36b : kE (w 36 + 1) (S 5 3 + 1) 0 20 := (e36.add kE1 (by decide) (by decide)).bd (by have := (e36.add kE1 (by decide) (by decide)).2.1; omega) (by
        have a := (e36.add kE1 (by decide) (by decide)).1
        rw [Int64.toInt_add, show (1 : Int64).toInt = 1 by decide, kn_bmodL (by have := e36.1; have := e36.2.1; omega) (by have := e36.1; have := e36.2.2; omega)] at a
        have := e36.1
        have := e44.2.2
        omega)
      have k2s := k2.sel 5
      rw [E5] at k2s
      have k3 := k2s.set2 36 (by decide) (by decide) rfl e36b (by decide) (Int.le_refl _)
      have hs3 : kSg (vp_updL u 36 (w 36 + 1)) := fun i2 hi2 => by
        have a : vp_updL u 36 (w 36 + 1) 43 = u 43 := upnL (by decide) rfl
        rw [a] at hi2
        have a2 : vp_updL u 36 (w 36 + 1) (50 + 4 * i2 + 2) = u (50 + 4 * i2 + 2) := upnL (by omega) rfl
        have a3 : vp_updL u 36 (w 36 + 1) (50 + 4 * i2 + 3) = u (50 + 4 * i2 + 3) := upnL (by omega) rfl
        rw [a2, a3]
        exact hsu i2 hi2
      have k4 := kRel.begin (p1 := S 5 3 + 1) (F := S 5) k3 hs3 f (i := 0) (by rw [ES 4 (by decide), ← h43.1]; omega) t1
      have e0 : (nI 0).toInt64 = 0 := by decide
      have eb : s_X11_begin f (vp_updL u 36 (w 36 + 1)) (nI 0).toInt64 (w 32 + 1) = s_X11_begin f (vp_updL u 36 (w 36 + 1)) 0 (w 32 + 1) := by rw [e0]
      have ez : nI 0 = 0 := by decide
      rw [eb, ez] at k4
      unfold bgR at k4
      unfold s_X7_beginSegment s_X7_beginSegment_2 s_X7_beginSegment_1
      unfold s_X7_beginSegment s_X7_beginSegment_2 s_X7_beginSegment_1 at k4
      have e2 := wr_eq E1 (31 * j + (1000 * 3 : Int32).toInt64 + (S 5 6).toInt64) 2 0
      have E2lo : ∀ a : Nat, a < 19 ∨ a = 25 → entS E1 2 0 a = E1 a := fun a ha => entS_lo ha
      generalize entS E1 2 0 = E2 at k4 e2 E2lo
      rw [ES 6 (by decide), ES 4 (by decide), ES 10 (by decide)] at k4
      rw [e1z] at e2
      rw [e2]
      refine ⟨k4.1.cgA (fun a ha => ?_), k4.2⟩
      exact
        match a, ha with
        | 0, _ => (fpS_lo (by decide)).trans (((E2lo 0 (by decide)).trans (ES 0 (by decide))).symm.trans (va_n (show (0 : Nat) ≠ 5 by decide)).symm)
        | 1, _ => (fpS_lo (by decide)).trans (((E2lo 1 (by decide)).trans (ES 1 (by decide))).symm.trans (va_n (show (1 : Nat) ≠ 5 by decide)).symm)
        | 2, _ => (fpS_lo (by decide)).trans (((E2lo 2 (by decide)).trans (ES 2 (by decide))).symm.trans (va_n (show (2 : Nat) ≠ 5 by decide)).symm)
        | 3, _ => (fpS_lo (by decide)).trans (((E2lo 3 (by decide)).trans (ES 3 (by decide))).symm.trans (va_n (show (3 : Nat) ≠ 5 by decide)).symm)
        | 4, _ => (fpS_lo (by decide)).trans (((E2lo 4 (by decide)).trans (ES 4 (by decide))).symm.trans (va_n (show (4 : Nat) ≠ 5 by decide)).symm)
        | 5, _ => fpS_5.trans va_s.symm
        | 6, _ => (fpS_lo (by decide)).trans (((E2lo 6 (by decide)).trans (ES 6 (by decide))).symm.trans (va_n (show (6 : Nat) ≠ 5 by decide)).symm)
        | 7, _ => (fpS_lo (by decide)).trans (((E2lo 7 (by decide)).trans (ES 7 (by decide))).symm.trans (va_n (show (7 : Nat) ≠ 5 by decide)).symm)
        | 8, _ => (fpS_lo (by decide)).trans (((E2lo 8 (by decide)).trans (ES 8 (by decide))).symm.trans (va_n (show (8 : Nat) ≠ 5 by decide)).symm)
        | 9, _ => (fpS_lo (by decide)).trans (((E2lo 9 (by decide)).trans (ES 9 (by decide))).symm.trans (va_n (show (9 : Nat) ≠ 5 by decide)).symm)
        | 10, _ => (fpS_lo (by decide)).trans (((E2lo 10 (by decide)).trans (ES 10 (by decide))).symm.trans (va_n (show (10 : Nat) ≠ 5 by decide)).symm)
        | 11, _ => fpS_11.trans (((E2lo 11 (by decide)).trans (Elo 11 (by decide))).symm.trans (va_n (show (11 : Nat) ≠ 5 by decide)).symm)
        | 12, _ => fpS_12.trans (((E2lo 12 (by decide)).trans (Elo 12 (by decide))).symm.trans (va_n (show (12 : Nat) ≠ 5 by decide)).symm)
        | 13, _ => fpS_13.trans (((E2lo 13 (by decide)).trans (Elo 13 (by decide))).symm.trans (va_n (show (13 : Nat) ≠ 5 by decide)).symm)
        | 14, _ => fpS_14.trans (((E2lo 14 (by decide)).trans (Elo 14 (by decide))).symm.trans (va_n (show (14 : Nat) ≠ 5 by decide)).symm)
        | 15, _ => fpS_15.trans (((E2lo 15 (by decide)).trans (Elo 15 (by decide))).symm.trans (va_n (show (15 : Nat) ≠ 5 by decide)).symm)
        | 16, _ => fpS_16.trans (((E2lo 16 (by decide)).trans (Elo 16 (by decide))).symm.trans (va_n (show (16 : Nat) ≠ 5 by decide)).symm)
        | 17, _ => fpS_17.trans (((E2lo 17 (by decide)).trans (Elo 17 (by decide))).symm.trans (va_n (show (17 : Nat) ≠ 5 by decide)).symm)
        | 18, _ => fpS_18.trans (((E2lo 18 (by decide)).trans (Elo 18 (by decide))).symm.trans (va_n (show (18 : Nat) ≠ 5 by decide)).symm)
        | 19, _ => fpS_19.trans (va_n (show (19 : Nat) ≠ 5 by decide)).symm
        | 20, _ => fpS_20.trans (va_n (show (20 : Nat) ≠ 5 by decide)).symm
        | 21, _ => fpS_21.trans (va_n (show (21 : Nat) ≠ 5 by decide)).symm
        | 22, _ => fpS_22.trans (va_n (show (22 : Nat) ≠ 5 by decide)).symm
        | 23, _ => fpS_23.trans (va_n (show (23 : Nat) ≠ 5 by decide)).symm
        | 24, _ => fpS_24.trans (va_n (show (24 : Nat) ≠ 5 by decide)).symm
        | 25, _ => (fpS_lo (by decide)).trans (((E2lo 25 (by decide)).trans (ES 25 (by decide))).symm.trans (va_n (show (25 : Nat) ≠ 5 by decide)).symm)
        | n + 26, h => absurd h (by omega)
  · rw [if_neg c1, if_neg (pTn z1 c1)]
    have c1i : ¬ (S 4 1).toInt ≤ (S 5 2 + 1).toInt := fun z => c1 (Int32.le_iff_toInt_le.mpr z)
    have hn1 : S 5 2 + 1 = nI (i + 1) := by rw [hS52, nI_succ]
    have hn2 : w 35 + 1 = (nI (i + 1)).toInt64 := by rw [h35]; exact nIL_inc (by omega)
    rw [hn1, nI_toInt (by omega)] at c1i
    rw [hn1, hn2]
    have k3 := k2.sel 5
    rw [E5] at k3
    have e53 : upd (S 5) 3 (S 5 3) = S 5 := upd_self
    have k3' : kRel T (va_up E1 5 (upd (S 5) 3 (S 5 3))) (31 * j + (1000 * 3 : Int32).toInt64 + (S 5 6).toInt64) u := by rw [e53]; exact k3
    have k4 := kRel.begin (p1 := S 5 3) (F := S 5) k3' hsu f (i := i + 1) (by rw [ES 4 (by decide)]; omega) t1
    unfold bgR at k4
    unfold s_X7_beginSegment s_X7_beginSegment_2 s_X7_beginSegment_1
    unfold s_X7_beginSegment s_X7_beginSegment_2 s_X7_beginSegment_1 at k4
    have e2 := wr_eq E1 (31 * j + (1000 * 3 : Int32).toInt64 + (S 5 6).toInt64) 2 (nI (i + 1))
    have E2lo : ∀ a : Nat, a < 19 ∨ a = 25 → entS E1 2 (nI (i + 1)) a = E1 a := fun a ha => entS_lo ha
    generalize entS E1 2 (nI (i + 1)) = E2 at k4 e2 E2lo
    rw [ES 6 (by decide), ES 4 (by decide), ES 10 (by decide)] at k4
    rw [e1z] at e2
    rw [e2]
    refine ⟨k4.1.cgA (fun a ha => ?_), k4.2⟩
    exact
      match a, ha with
      | 0, _ => (fpS_lo (by decide)).trans (((E2lo 0 (by decide)).trans (ES 0 (by decide))).symm.trans (va_n (show (0 : Nat) ≠ 5 by decide)).symm)
      | 1, _ => (fpS_lo (by decide)).trans (((E2lo 1 (by decide)).trans (ES 1 (by decide))).symm.trans (va_n (show (1 : Nat) ≠ 5 by decide)).symm)
      | 2, _ => (fpS_lo (by decide)).trans (((E2lo 2 (by decide)).trans (ES 2 (by decide))).symm.trans (va_n (show (2 : Nat) ≠ 5 by decide)).symm)
      | 3, _ => (fpS_lo (by decide)).trans (((E2lo 3 (by decide)).trans (ES 3 (by decide))).symm.trans (va_n (show (3 : Nat) ≠ 5 by decide)).symm)
      | 4, _ => (fpS_lo (by decide)).trans (((E2lo 4 (by decide)).trans (ES 4 (by decide))).symm.trans (va_n (show (4 : Nat) ≠ 5 by decide)).symm)
      | 5, _ => fpS_5.trans va_s.symm
      | 6, _ => (fpS_lo (by decide)).trans (((E2lo 6 (by decide)).trans (ES 6 (by decide))).symm.trans (va_n (show (6 : Nat) ≠ 5 by decide)).symm)
      | 7, _ => (fpS_lo (by decide)).trans (((E2lo 7 (by decide)).trans (ES 7 (by decide))).symm.trans (va_n (show (7 : Nat) ≠ 5 by decide)).symm)
      | 8, _ => (fpS_lo (by decide)).trans (((E2lo 8 (by decide)).trans (ES 8 (by decide))).symm.trans (va_n (show (8 : Nat) ≠ 5 by decide)).symm)
      | 9, _ => (fpS_lo (by decide)).trans (((E2lo 9 (by decide)).trans (ES 9 (by decide))).symm.trans (va_n (show (9 : Nat) ≠ 5 by decide)).symm)
      | 10, _ => (fpS_lo (by decide)).trans (((E2lo 10 (by decide)).trans (ES 10 (by decide))).symm.trans (va_n (show (10 : Nat) ≠ 5 by decide)).symm)
      | 11, _ => fpS_11.trans (((E2lo 11 (by decide)).trans (Elo 11 (by decide))).symm.trans (va_n (show (11 : Nat) ≠ 5 by decide)).symm)
      | 12, _ => fpS_12.trans (((E2lo 12 (by decide)).trans (Elo 12 (by decide))).symm.trans (va_n (show (12 : Nat) ≠ 5 by decide)).symm)
      | 13, _ => fpS_13.trans (((E2lo 13 (by decide)).trans (Elo 13 (by decide))).symm.trans (va_n (show (13 : Nat) ≠ 5 by decide)).symm)
      | 14, _ => fpS_14.trans (((E2lo 14 (by decide)).trans (Elo 14 (by decide))).symm.trans (va_n (show (14 : Nat) ≠ 5 by decide)).symm)
      | 15, _ => fpS_15.trans (((E2lo 15 (by decide)).trans (Elo 15 (by decide))).symm.trans (va_n (show (15 : Nat) ≠ 5 by decide)).symm)
      | 16, _ => fpS_16.trans (((E2lo 16 (by decide)).trans (Elo 16 (by decide))).symm.trans (va_n (show (16 : Nat) ≠ 5 by decide)).symm)
      | 17, _ => fpS_17.trans (((E2lo 17 (by decide)).trans (Elo 17 (by decide))).symm.trans (va_n (show (17 : Nat) ≠ 5 by decide)).symm)
      | 18, _ => fpS_18.trans (((E2lo 18 (by decide)).trans (Elo 18 (by decide))).symm.trans (va_n (show (18 : Nat) ≠ 5 by decide)).symm)
      | 19, _ => fpS_19.trans (va_n (show (19 : Nat) ≠ 5 by decide)).symm
      | 20, _ => fpS_20.trans (va_n (show (20 : Nat) ≠ 5 by decide)).symm
      | 21, _ => fpS_21.trans (va_n (show (21 : Nat) ≠ 5 by decide)).symm
      | 22, _ => fpS_22.trans (va_n (show (22 : Nat) ≠ 5 by decide)).symm
      | 23, _ => fpS_23.trans (va_n (show (23 : Nat) ≠ 5 by decide)).symm
      | 24, _ => fpS_24.trans (va_n (show (24 : Nat) ≠ 5 by decide)).symm
      | 25, _ => (fpS_lo (by decide)).trans (((E2lo 25 (by decide)).trans (ES 25 (by decide))).symm.trans (va_n (show (25 : Nat) ≠ 5 by decide)).symm)
      | n + 26, h => absurd h (by omega)
