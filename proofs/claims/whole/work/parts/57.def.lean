/-! the relation between a State of the class and the reference's row -/
def rA : Nat → Nat × Nat
  | 0 => (1, 0)
  | 1 => (1, 1)
  | 2 => (1, 2)
  | 3 => (1, 3)
  | 4 => (1, 4)
  | 5 => (1, 5)
  | 6 => (1, 6)
  | 7 => (1, 7)
  | 8 => (1, 8)
  | 9 => (1, 9)
  | 10 => (1, 10)
  | 11 => (1, 11)
  | 12 => (6, 0)
  | 13 => (6, 1)
  | 14 => (6, 2)
  | 15 => (6, 3)
  | 16 => (6, 4)
  | 17 => (2, 0)
  | 18 => (3, 0)
  | 19 => (2, 1)
  | 20 => (3, 1)
  | 21 => (2, 2)
  | 22 => (3, 2)
  | 23 => (6, 7)
  | 24 => (6, 8)
  | 25 => (6, 9)
  | 26 => (6, 10)
  | 27 => (6, 11)
  | 28 => (6, 12)
  | 29 => (6, 6)
  | 30 => (6, 5)
  | 31 => (6, 13)
  | 32 => (0, 0)
  | 33 => (5, 0)
  | 34 => (5, 1)
  | 35 => (5, 2)
  | 36 => (5, 3)
  | 37 => (5, 8)
  | 38 => (5, 9)
  | 39 => (5, 4)
  | 40 => (5, 5)
  | 41 => (5, 6)
  | 42 => (5, 7)
  | 43 => (4, 1)
  | 44 => (0, 1)
  | _ => (0, 0)
def rLo : Nat → Int
  | 0 => 1
  | 1 => 1
  | 2 => 1
  | 3 => 1
  | 4 => 0
  | 5 => 0
  | 6 => 0
  | 7 => 0
  | 8 => 0
  | 9 => -200
  | 10 => 0
  | 11 => 0
  | 12 => -700
  | 13 => 0
  | 14 => -700
  | 15 => 0
  | 16 => 0
  | 17 => 0
  | 18 => 0
  | 19 => 1
  | 20 => 1
  | 21 => 0
  | 22 => 0
  | 23 => 0
  | 24 => 0
  | 25 => 0
  | 26 => 0
  | 27 => 0
  | 28 => 0
  | 29 => 0
  | 30 => 0
  | 31 => 0
  | 32 => 0
  | 33 => 0
  | 34 => 0
  | 35 => 0
  | 36 => 0
  | 37 => -700
  | 38 => 0
  | 39 => 0
  | 40 => 0
  | 41 => 0
  | 42 => 0
  | 43 => 0
  | 44 => 1
  | _ => 0
def rHi (T : Int) : Nat → Int
  | 0 => 50
  | 1 => 50
  | 2 => 50
  | 3 => 50
  | 4 => 20
  | 5 => 20
  | 6 => 100
  | 7 => 200
  | 8 => 30
  | 9 => 500
  | 10 => 1000
  | 11 => 1000
  | 12 => 2000
  | 13 => 1000
  | 14 => 2000
  | 15 => 1000
  | 16 => 1
  | 17 => 2
  | 18 => 2
  | 19 => 100
  | 20 => 100
  | 21 => 50
  | 22 => 50
  | 23 => 1000
  | 24 => 1000
  | 25 => T
  | 26 => T
  | 27 => T
  | 28 => T
  | 29 => T
  | 30 => 1
  | 31 => 100 * T
  | 32 => T
  | 33 => 4
  | 34 => 1
  | 35 => 11
  | 36 => 20
  | 37 => 2000
  | 38 => 1000
  | 39 => 500
  | 40 => 500
  | 41 => T
  | 42 => T
  | 43 => 12
  | 44 => 20
  | _ => 0
def rS (S : Nat → Nat → Int32) (k : Nat) : Int32 := S (rA k).1 (rA k).2
def sLo : Nat → Int
  | 0 => -400 | _ => 0
def sHi : Nat → Int
  | 0 => 1800 | 1 => 1000 | _ => 500
/-- T: what the time and all that grows with it stay below -/
def kRel (T : Int) (S : Nat → Nat → Int32) (j : Int64) (w : Nat → Int64) : Prop :=
  (∀ k : Nat, k < 45 → w k = (rS S k).toInt64 ∧ kIn (rS S k) (rLo k) (rHi T k)) ∧
  (∀ k : Nat, (k : Int) < 4 * (S 4 1).toInt → w (50 + k) = (S 10 k).toInt64 ∧ kIn (S 10 k) (sLo (k % 4)) (sHi (k % 4))) ∧
  (rgR 16 (S 11) (S 15) (w 45) (fun i => w (98 + 4 * i)) ∧ rgR 16 (S 12) (S 16) (w 45) (fun i => w (98 + 4 * i + 1)) ∧ rgR 16 (S 13) (S 17) (w 45) (fun i => w (98 + 4 * i + 2)) ∧ rgR 16 (S 14) (S 18) (w 45) (fun i => w (98 + 4 * i + 3))) ∧
  (rgR 24 (S 19) (S 22) (w 46) (fun i => w (162 + 3 * i)) ∧ rgR 24 (S 20) (S 23) (w 46) (fun i => w (162 + 3 * i + 1)) ∧ rgR 24 (S 21) (S 24) (w 46) (fun i => w (162 + 3 * i + 2))) ∧
  rgR 60 (S 9) (S 25) (w 48) (fun i => w (234 + i)) ∧ (∀ i : Nat, (i : Int) < (w 48).toInt → kInL (w (234 + i)) (-700) 2000) ∧ j = w 47
theorem rgR0 {N : Nat} {row : Nat → Int64} (h : 0 < N) : rgR N i0 i0 0 row := ⟨0, 0, h, Nat.zero_le _, rfl, rfl, rfl, fun b hb => absurd hb (Nat.not_lt_zero _)⟩
theorem kRel00 {T : Int} (hT : 0 ≤ T) : kRel T iS 17 iW := by
  have z : ∀ k : Nat, (k : Int) < 4 * (iS 4 1).toInt → False := fun k h => by
    have e : (iS 4 1).toInt = 0 := by decide +kernel
    rw [e] at h
    omega
  refine ⟨fun k hk => ?_, fun k h => (z k h).elim, ⟨rgR0 (by decide), rgR0 (by decide), rgR0 (by decide), rgR0 (by decide)⟩, ⟨rgR0 (by decide), rgR0 (by decide), rgR0 (by decide)⟩, rgR0 (by decide), fun i h => ?_, by decide +kernel⟩
  · match k, hk with
    | 0, _ => exact ⟨by decide +kernel, by decide +kernel, by show (rS iS 0).toInt ≤ (rHi 0 0); decide +kernel⟩
    | 1, _ => exact ⟨by decide +kernel, by decide +kernel, by show (rS iS 1).toInt ≤ (rHi 0 1); decide +kernel⟩
    | 2, _ => exact ⟨by decide +kernel, by decide +kernel, by show (rS iS 2).toInt ≤ (rHi 0 2); decide +kernel⟩
    | 3, _ => exact ⟨by decide +kernel, by decide +kernel, by show (rS iS 3).toInt ≤ (rHi 0 3); decide +kernel⟩
    | 4, _ => exact ⟨by decide +kernel, by decide +kernel, by show (rS iS 4).toInt ≤ (rHi 0 4); decide +kernel⟩
    | 5, _ => exact ⟨by decide +kernel, by decide +kernel, by show (rS iS 5).toInt ≤ (rHi 0 5); decide +kernel⟩
    | 6, _ => exact ⟨by decide +kernel, by decide +kernel, by show (rS iS 6).toInt ≤ (rHi 0 6); decide +kernel⟩
    | 7, _ => exact ⟨by decide +kernel, by decide +kernel, by show (rS iS 7).toInt ≤ (rHi 0 7); decide +kernel⟩
    | 8, _ => exact ⟨by decide +kernel, by decide +kernel, by show (rS iS 8).toInt ≤ (rHi 0 8); decide +kernel⟩
    | 9, _ => exact ⟨by decide +kernel, by decide +kernel, by show (rS iS 9).toInt ≤ (rHi 0 9); decide +kernel⟩
    | 10, _ => exact ⟨by decide +kernel, by decide +kernel, by show (rS iS 10).toInt ≤ (rHi 0 10); decide +kernel⟩
    | 11, _ => exact ⟨by decide +kernel, by decide +kernel, by show (rS iS 11).toInt ≤ (rHi 0 11); decide +kernel⟩
    | 12, _ => exact ⟨by decide +kernel, by decide +kernel, by show (rS iS 12).toInt ≤ (rHi 0 12); decide +kernel⟩
    | 13, _ => exact ⟨by decide +kernel, by decide +kernel, by show (rS iS 13).toInt ≤ (rHi 0 13); decide +kernel⟩
    | 14, _ => exact ⟨by decide +kernel, by decide +kernel, by show (rS iS 14).toInt ≤ (rHi 0 14); decide +kernel⟩
    | 15, _ => exact ⟨by decide +kernel, by decide +kernel, by show (rS iS 15).toInt ≤ (rHi 0 15); decide +kernel⟩
    | 16, _ => exact ⟨by decide +kernel, by decide +kernel, by show (rS iS 16).toInt ≤ (rHi 0 16); decide +kernel⟩
    | 17, _ => exact ⟨by decide +kernel, by decide +kernel, by show (rS iS 17).toInt ≤ (rHi 0 17); decide +kernel⟩
    | 18, _ => exact ⟨by decide +kernel, by decide +kernel, by show (rS iS 18).toInt ≤ (rHi 0 18); decide +kernel⟩
    | 19, _ => exact ⟨by decide +kernel, by decide +kernel, by show (rS iS 19).toInt ≤ (rHi 0 19); decide +kernel⟩
    | 20, _ => exact ⟨by decide +kernel, by decide +kernel, by show (rS iS 20).toInt ≤ (rHi 0 20); decide +kernel⟩
    | 21, _ => exact ⟨by decide +kernel, by decide +kernel, by show (rS iS 21).toInt ≤ (rHi 0 21); decide +kernel⟩
    | 22, _ => exact ⟨by decide +kernel, by decide +kernel, by show (rS iS 22).toInt ≤ (rHi 0 22); decide +kernel⟩
    | 23, _ => exact ⟨by decide +kernel, by decide +kernel, by show (rS iS 23).toInt ≤ (rHi 0 23); decide +kernel⟩
    | 24, _ => exact ⟨by decide +kernel, by decide +kernel, by show (rS iS 24).toInt ≤ (rHi 0 24); decide +kernel⟩
    | 25, _ => exact ⟨by decide +kernel, by decide +kernel, (show (rS iS 25).toInt ≤ T from (show (rS iS 25).toInt = 0 by decide +kernel).symm ▸ (by omega : (0 : Int) ≤ T))⟩
    | 26, _ => exact ⟨by decide +kernel, by decide +kernel, (show (rS iS 26).toInt ≤ T from (show (rS iS 26).toInt = 0 by decide +kernel).symm ▸ (by omega : (0 : Int) ≤ T))⟩
    | 27, _ => exact ⟨by decide +kernel, by decide +kernel, (show (rS iS 27).toInt ≤ T from (show (rS iS 27).toInt = 0 by decide +kernel).symm ▸ (by omega : (0 : Int) ≤ T))⟩
    | 28, _ => exact ⟨by decide +kernel, by decide +kernel, (show (rS iS 28).toInt ≤ T from (show (rS iS 28).toInt = 0 by decide +kernel).symm ▸ (by omega : (0 : Int) ≤ T))⟩
    | 29, _ => exact ⟨by decide +kernel, by decide +kernel, (show (rS iS 29).toInt ≤ T from (show (rS iS 29).toInt = 0 by decide +kernel).symm ▸ (by omega : (0 : Int) ≤ T))⟩
    | 30, _ => exact ⟨by decide +kernel, by decide +kernel, by show (rS iS 30).toInt ≤ (rHi 0 30); decide +kernel⟩
    | 31, _ => exact ⟨by decide +kernel, by decide +kernel, (show (rS iS 31).toInt ≤ 100 * T from (show (rS iS 31).toInt = 0 by decide +kernel).symm ▸ (by omega : (0 : Int) ≤ 100 * T))⟩
    | 32, _ => exact ⟨by decide +kernel, by decide +kernel, (show (rS iS 32).toInt ≤ T from (show (rS iS 32).toInt = 0 by decide +kernel).symm ▸ (by omega : (0 : Int) ≤ T))⟩
    | 33, _ => exact ⟨by decide +kernel, by decide +kernel, by show (rS iS 33).toInt ≤ (rHi 0 33); decide +kernel⟩
    | 34, _ => exact ⟨by decide +kernel, by decide +kernel, by show (rS iS 34).toInt ≤ (rHi 0 34); decide +kernel⟩
    | 35, _ => exact ⟨by decide +kernel, by decide +kernel, by show (rS iS 35).toInt ≤ (rHi 0 35); decide +kernel⟩
    | 36, _ => exact ⟨by decide +kernel, by decide +kernel, by show (rS iS 36).toInt ≤ (rHi 0 36); decide +kernel⟩
    | 37, _ => exact ⟨by decide +kernel, by decide +kernel, by show (rS iS 37).toInt ≤ (rHi 0 37); decide +kernel⟩
    | 38, _ => exact ⟨by decide +kernel, by decide +kernel, by show (rS iS 38).toInt ≤ (rHi 0 38); decide +kernel⟩
    | 39, _ => exact ⟨by decide +kernel, by decide +kernel, by show (rS iS 39).toInt ≤ (rHi 0 39); decide +kernel⟩
    | 40, _ => exact ⟨by decide +kernel, by decide +kernel, by show (rS iS 40).toInt ≤ (rHi 0 40); decide +kernel⟩
    | 41, _ => exact ⟨by decide +kernel, by decide +kernel, (show (rS iS 41).toInt ≤ T from (show (rS iS 41).toInt = 0 by decide +kernel).symm ▸ (by omega : (0 : Int) ≤ T))⟩
    | 42, _ => exact ⟨by decide +kernel, by decide +kernel, (show (rS iS 42).toInt ≤ T from (show (rS iS 42).toInt = 0 by decide +kernel).symm ▸ (by omega : (0 : Int) ≤ T))⟩
    | 43, _ => exact ⟨by decide +kernel, by decide +kernel, by show (rS iS 43).toInt ≤ (rHi 0 43); decide +kernel⟩
    | 44, _ => exact ⟨by decide +kernel, by decide +kernel, by show (rS iS 44).toInt ≤ (rHi 0 44); decide +kernel⟩
    | n + 45, h => exact absurd h (by omega)
  · have e : (iW 48).toInt = 0 := by decide +kernel
    rw [e] at h
    omega
