theorem q_15 : Cond.initialized RL ∈ lw_all := kq 15 (by decide +kernel) (by decide +kernel)
theorem q_652 : Cond.static yL_value ∈ lw_all := kq 652 (by decide +kernel) (by decide +kernel)
theorem q_653 : Cond.codeWith yL_value cL_value 3 (some .int) [(0, 5, 6, 18)] ∈ lw_all := kq 653 (by decide +kernel) (by decide +kernel)
theorem q_819 : Cond.static yL_valueIn ∈ lw_all := kq 819 (by decide +kernel) (by decide +kernel)
theorem q_820 : Cond.codeWith yL_valueIn cL_valueIn 4 (some .int) [(0, 6, 7, 15), (0, 6, 11, 18)] ∈ lw_all := kq 820 (by decide +kernel) (by decide +kernel)
theorem q_827 : Cond.static yL_doneIn ∈ lw_all := kq 827 (by decide +kernel) (by decide +kernel)
theorem q_828 : Cond.codeWith yL_doneIn cL_doneIn 2 (some .int) [(0, 4, 5, 28)] ∈ lw_all := kq 828 (by decide +kernel) (by decide +kernel)
theorem q_835 : Cond.static yL_reachIn ∈ lw_all := kq 835 (by decide +kernel) (by decide +kernel)
theorem q_836 : Cond.codeWith yL_reachIn cL_reachIn 3 (some .int) [(0, 5, 6, 18)] ∈ lw_all := kq 836 (by decide +kernel) (by decide +kernel)
theorem q_843 : Cond.static yL_bestMode ∈ lw_all := kq 843 (by decide +kernel) (by decide +kernel)
theorem q_844 : Cond.codeWith yL_bestMode cL_bestMode 3 (some .int) [(0, 5, 6, 18)] ∈ lw_all := kq 844 (by decide +kernel) (by decide +kernel)
theorem q_850 : Cond.static yL_result ∈ lw_all := kq 850 (by decide +kernel) (by decide +kernel)
theorem q_851 : Cond.codeWith yL_result cL_result 4 (some .int) [(0, 6, 7, 18)] ∈ lw_all := kq 851 (by decide +kernel) (by decide +kernel)
theorem q_866 : Cond.static yL_history ∈ lw_all := kq 866 (by decide +kernel) (by decide +kernel)
theorem q_867 : Cond.codeWith yL_history cL_history 3 (some .int) [(0, 5, 6, 18)] ∈ lw_all := kq 867 (by decide +kernel) (by decide +kernel)
theorem q_874 : Cond.static yL_spread ∈ lw_all := kq 874 (by decide +kernel) (by decide +kernel)
theorem q_875 : Cond.codeWith yL_spread cL_spread 3 (some .int) [(0, 5, 6, 18)] ∈ lw_all := kq 875 (by decide +kernel) (by decide +kernel)
theorem q_908 : Cond.static yL_setting ∈ lw_all := kq 908 (by decide +kernel) (by decide +kernel)
theorem q_909 : Cond.codeWith yL_setting cL_setting 3 (some .int) [(0, 5, 6, 15)] ∈ lw_all := kq 909 (by decide +kernel) (by decide +kernel)
theorem q_922 : Cond.static yL_audit ∈ lw_all := kq 922 (by decide +kernel) (by decide +kernel)
theorem q_923 : Cond.codeWith yL_audit cL_audit 4 (some .int) [(0, 6, 7, 18)] ∈ lw_all := kq 923 (by decide +kernel) (by decide +kernel)
theorem cw_value : pCw yL_value cL_value 3 [(0, 5, 6, 18)] 2 := ⟨q_653, q_15, q_652, by decide +kernel⟩
def rv_value (V : pV) (p0 : Int32) : Int32 := (if (s_X10_isWithin p0 0 24) = 0 then (-2000002) else (r_value_0 (pX V) p0))
theorem pw_value (l : Launch) (hl0 : l.stackTraces = false) (D : va_G) (cI cJ cO : ClassId) (z : zT) (V : pV) (p0 : Int32) : pCall l D cI cJ cO z yL_value cL_value 3 [(0, 5, 6, 18)] [.int p0] V (rv_value V p0) V := by
  unfold rv_value
  by_cases v1 : (s_X10_isWithin p0 0 24) = 0
  · rw [if_pos v1]
    intro b u q hq
    obtain ⟨X, Y⟩ := q
    subst hq
    exact ⟨8, 127, Unit, n_value_1 X p0, fun _ => Y, by decide, by decide, w_value_1 l hl0 D cI cJ cO z b u X Y p0 v1, fun _ => rfl⟩
  · rw [if_neg v1]
    intro b u q hq
    obtain ⟨X, Y⟩ := q
    subst hq
    exact ⟨3, 65, Unit, n_value_0 X p0, fun _ => Y, by decide, by decide, w_value_0 l hl0 D cI cJ cO z b u X Y p0 v1, fun _ => rfl⟩
theorem cw_setting : pCw yL_setting cL_setting 3 [(0, 5, 6, 15)] 2 := ⟨q_909, q_15, q_908, by decide +kernel⟩
def rv_setting (V : pV) (p0 : Int32) : Int32 := (if (p0 < 0 ∨ 12 ≤ p0) then (-2000001) else (r_setting_0 (pX V) p0))
theorem pw_setting (l : Launch) (hl0 : l.stackTraces = false) (D : va_G) (cI cJ cO : ClassId) (z : zT) (V : pV) (p0 : Int32) : pCall l D cI cJ cO z yL_setting cL_setting 3 [(0, 5, 6, 15)] [.int p0] V (rv_setting V p0) V := by
  unfold rv_setting
  by_cases v1 : (p0 < 0 ∨ 12 ≤ p0)
  · rw [if_pos v1]
    intro b u q hq
    obtain ⟨X, Y⟩ := q
    subst hq
    exact ⟨8, 127, Unit, n_setting_1 X p0, fun _ => Y, by decide, by decide, w_setting_1 l hl0 D cI cJ cO z b u X Y p0 v1, fun _ => rfl⟩
  · rw [if_neg v1]
    intro b u q hq
    obtain ⟨X, Y⟩ := q
    subst hq
    exact ⟨2, 45, Unit, n_setting_0 X p0, fun _ => Y, by decide, by decide, w_setting_0 l hl0 D cI cJ cO z b u X Y p0 v1, fun _ => rfl⟩
theorem cw_result : pCw yL_result cL_result 4 [(0, 6, 7, 18)] 3 := ⟨q_851, q_15, q_850, by decide +kernel⟩
def rv_result (V : pV) (p0 p1 : Int32) : Int32 := (if p0 < 0 then (-2000002) else (if (s_X10_isWithin p1 0 3) = 0 then (-2000002) else (r_result_2 (pX V) p0 p1)))
theorem pw_result (l : Launch) (hl0 : l.stackTraces = false) (D : va_G) (cI cJ cO : ClassId) (z : zT) (V : pV) (p0 p1 : Int32) : pCall l D cI cJ cO z yL_result cL_result 4 [(0, 6, 7, 18)] [.int p0, .int p1] V (rv_result V p0 p1) V := by
  unfold rv_result
  by_cases v1 : p0 < 0
  · rw [if_pos v1]
    intro b u q hq
    obtain ⟨X, Y⟩ := q
    subst hq
    exact ⟨8, 128, Unit, n_result_0 X p0 p1, fun _ => Y, by decide, by decide, w_result_0 l hl0 D cI cJ cO z b u X Y p0 p1 v1, fun _ => rfl⟩
  · rw [if_neg v1]
    by_cases v2 : (s_X10_isWithin p1 0 3) = 0
    · rw [if_pos v2]
      intro b u q hq
      obtain ⟨X, Y⟩ := q
      subst hq
      exact ⟨8, 128, Unit, n_result_1 X p0 p1, fun _ => Y, by decide, by decide, w_result_1 l hl0 D cI cJ cO z b u X Y p0 p1 v1 v2, fun _ => rfl⟩
    · rw [if_neg v2]
      intro b u q hq
      obtain ⟨X, Y⟩ := q
      subst hq
      exact ⟨4, 90, Unit, n_result_2 X p0 p1, fun _ => Y, by decide, by decide, w_result_2 l hl0 D cI cJ cO z b u X Y p0 p1 v1 v2, fun _ => rfl⟩
theorem cw_audit : pCw yL_audit cL_audit 4 [(0, 6, 7, 18)] 3 := ⟨q_923, q_15, q_922, by decide +kernel⟩
def rv_audit (V : pV) (p0 p1 : Int32) : Int32 := (if p0 < 0 then (-2000002) else (if (s_X10_isWithin p1 0 2) = 0 then (-2000002) else (r_audit_2 (pX V) p0 p1)))
theorem pw_audit (l : Launch) (hl0 : l.stackTraces = false) (D : va_G) (cI cJ cO : ClassId) (z : zT) (V : pV) (p0 p1 : Int32) : pCall l D cI cJ cO z yL_audit cL_audit 4 [(0, 6, 7, 18)] [.int p0, .int p1] V (rv_audit V p0 p1) V := by
  unfold rv_audit
  by_cases v1 : p0 < 0
  · rw [if_pos v1]
    intro b u q hq
    obtain ⟨X, Y⟩ := q
    subst hq
    exact ⟨8, 128, Unit, n_audit_0 X p0 p1, fun _ => Y, by decide, by decide, w_audit_0 l hl0 D cI cJ cO z b u X Y p0 p1 v1, fun _ => rfl⟩
  · rw [if_neg v1]
    by_cases v2 : (s_X10_isWithin p1 0 2) = 0
    · rw [if_pos v2]
      intro b u q hq
      obtain ⟨X, Y⟩ := q
      subst hq
      exact ⟨8, 128, Unit, n_audit_1 X p0 p1, fun _ => Y, by decide, by decide, w_audit_1 l hl0 D cI cJ cO z b u X Y p0 p1 v1 v2, fun _ => rfl⟩
    · rw [if_neg v2]
      intro b u q hq
      obtain ⟨X, Y⟩ := q
      subst hq
      exact ⟨4, 90, Unit, n_audit_2 X p0 p1, fun _ => Y, by decide, by decide, w_audit_2 l hl0 D cI cJ cO z b u X Y p0 p1 v1 v2, fun _ => rfl⟩
theorem cw_history : pCw yL_history cL_history 3 [(0, 5, 6, 18)] 2 := ⟨q_867, q_15, q_866, by decide +kernel⟩
def rv_history (V : pV) (p0 : Int32) : Int32 := (if p0 < 0 then (-2000002) else (r_history_1 (pX V) p0))
theorem pw_history (l : Launch) (hl0 : l.stackTraces = false) (D : va_G) (cI cJ cO : ClassId) (z : zT) (V : pV) (p0 : Int32) : pCall l D cI cJ cO z yL_history cL_history 3 [(0, 5, 6, 18)] [.int p0] V (rv_history V p0) V := by
  unfold rv_history
  by_cases v1 : p0 < 0
  · rw [if_pos v1]
    intro b u q hq
    obtain ⟨X, Y⟩ := q
    subst hq
    exact ⟨8, 127, Unit, n_history_0 X p0, fun _ => Y, by decide, by decide, w_history_0 l hl0 D cI cJ cO z b u X Y p0 v1, fun _ => rfl⟩
  · rw [if_neg v1]
    intro b u q hq
    obtain ⟨X, Y⟩ := q
    subst hq
    exact ⟨3, 67, Unit, n_history_1 X p0, fun _ => Y, by decide, by decide, w_history_1 l hl0 D cI cJ cO z b u X Y p0 v1, fun _ => rfl⟩
theorem cw_spread : pCw yL_spread cL_spread 3 [(0, 5, 6, 18)] 2 := ⟨q_875, q_15, q_874, by decide +kernel⟩
def rv_spread (V : pV) (p0 : Int32) : Int32 := (if (s_X10_isWithin p0 1 60) = 0 then (-2000002) else (r_spread_0 (pX V) p0))
theorem pw_spread (l : Launch) (hl0 : l.stackTraces = false) (D : va_G) (cI cJ cO : ClassId) (z : zT) (V : pV) (p0 : Int32) : pCall l D cI cJ cO z yL_spread cL_spread 3 [(0, 5, 6, 18)] [.int p0] V (rv_spread V p0) V := by
  unfold rv_spread
  by_cases v1 : (s_X10_isWithin p0 1 60) = 0
  · rw [if_pos v1]
    intro b u q hq
    obtain ⟨X, Y⟩ := q
    subst hq
    exact ⟨8, 131, Unit, n_spread_1 X p0, fun _ => Y, by decide, by decide, w_spread_1 l hl0 D cI cJ cO z b u X Y p0 v1, fun _ => rfl⟩
  · rw [if_neg v1]
    intro b u q hq
    obtain ⟨X, Y⟩ := q
    subst hq
    exact ⟨3, 71, Unit, n_spread_0 X p0, fun _ => Y, by decide, by decide, w_spread_0 l hl0 D cI cJ cO z b u X Y p0 v1, fun _ => rfl⟩
theorem cw_valueIn : pCw yL_valueIn cL_valueIn 4 [(0, 6, 7, 15), (0, 6, 11, 18)] 3 := ⟨q_820, q_15, q_819, by decide +kernel⟩
theorem pa_valueIn (l : Launch) (hl0 : l.stackTraces = false) (D : va_G) (cI cJ cO : ClassId) (z : zT) (V : pV) (hsb : kSb V.1) (p0 p1 : Int32) : ∀ (b : Nat) (u : Nat → Nat) (q : kXS × kTS), pvis q.1 q.2 = V → ∃ r, pCq l D cI cJ cO z yL_valueIn cL_valueIn 4 [(0, 6, 7, 15), (0, 6, 11, 18)] [.int p0, .int p1] b u q r V := by
  by_cases v1 : (p0 < 0 ∨ 2 ≤ p0)
  · intro b u q hq
    obtain ⟨X, Y⟩ := q
    subst hq
    exact ⟨_, 8, 129, Unit, n_valueIn_0 X p0 p1, fun _ => Y, by decide, by decide, w_valueIn_0 l hl0 D cI cJ cO z b u X Y p0 p1 v1, fun _ => rfl⟩
  · by_cases v2 : (s_X10_isWithin p1 0 300) = 0
    · intro b u q hq
      obtain ⟨X, Y⟩ := q
      subst hq
      exact ⟨_, 8, 129, Unit, n_valueIn_2 X p0 p1, fun _ => Y, by decide, by decide, w_valueIn_2 l hl0 D cI cJ cO z b u X Y p0 p1 v1 v2, fun _ => rfl⟩
    · intro b u q hq
      obtain ⟨X, Y⟩ := q
      subst hq
      exact ⟨_, 7, 159, Unit, n_valueIn_1 X p0 p1, fun _ => Y, by decide, by decide, w_valueIn_1 l hl0 D cI cJ cO z b u X Y p0 p1 hsb v1 v2, fun _ => rfl⟩
theorem cw_doneIn : pCw yL_doneIn cL_doneIn 2 [(0, 4, 5, 28)] 1 := ⟨q_828, q_15, q_827, by decide +kernel⟩
theorem pa_doneIn (l : Launch) (hl0 : l.stackTraces = false) (D : va_G) (cI cJ cO : ClassId) (z : zT) (V : pV) (hsb : kSb V.1) : ∀ (b : Nat) (u : Nat → Nat) (q : kXS × kTS), pvis q.1 q.2 = V → ∃ r, pCq l D cI cJ cO z yL_doneIn cL_doneIn 2 [(0, 4, 5, 28)] [] b u q r V := by
  by_cases v1 : (s_X4_isRunning (V.1 5)) = 0
  · intro b u q hq
    obtain ⟨X, Y⟩ := q
    subst hq
    exact ⟨_, 8, 127, Unit, n_doneIn_1 X, fun _ => Y, by decide, by decide, w_doneIn_1 l hl0 D cI cJ cO z b u X Y v1, fun _ => rfl⟩
  · intro b u q hq
    obtain ⟨X, Y⟩ := q
    subst hq
    exact ⟨_, 7, 157, Unit, n_doneIn_0 X, fun _ => Y, by decide, by decide, w_doneIn_0 l hl0 D cI cJ cO z b u X Y hsb v1, fun _ => rfl⟩
theorem cw_reachIn : pCw yL_reachIn cL_reachIn 3 [(0, 5, 6, 18)] 2 := ⟨q_836, q_15, q_835, by decide +kernel⟩
theorem pa_reachIn (l : Launch) (hl0 : l.stackTraces = false) (D : va_G) (cI cJ cO : ClassId) (z : zT) (V : pV) (hsb : kSb V.1) (p0 : Int32) : ∀ (b : Nat) (u : Nat → Nat) (q : kXS × kTS), pvis q.1 q.2 = V → ∃ r, pCq l D cI cJ cO z yL_reachIn cL_reachIn 3 [(0, 5, 6, 18)] [.int p0] b u q r V := by
  by_cases v1 : (s_X10_isTargetTemperature p0) = 0
  · intro b u q hq
    obtain ⟨X, Y⟩ := q
    subst hq
    exact ⟨_, 8, 129, Unit, n_reachIn_1 X p0, fun _ => Y, by decide, by decide, w_reachIn_1 l hl0 D cI cJ cO z b u X Y p0 v1, fun _ => rfl⟩
  · intro b u q hq
    obtain ⟨X, Y⟩ := q
    subst hq
    exact ⟨_, 7, 159, Unit, n_reachIn_0 X p0, fun _ => Y, by decide, by decide, w_reachIn_0 l hl0 D cI cJ cO z b u X Y p0 hsb v1, fun _ => rfl⟩
theorem cw_bestMode : pCw yL_bestMode cL_bestMode 3 [(0, 5, 6, 18)] 2 := ⟨q_844, q_15, q_843, by decide +kernel⟩
theorem pa_bestMode (l : Launch) (hl0 : l.stackTraces = false) (D : va_G) (cI cJ cO : ClassId) (z : zT) (V : pV) (hsb : kSb V.1) (p0 : Int32) : ∀ (b : Nat) (u : Nat → Nat) (q : kXS × kTS), pvis q.1 q.2 = V → ∃ r, pCq l D cI cJ cO z yL_bestMode cL_bestMode 3 [(0, 5, 6, 18)] [.int p0] b u q r V := by
  by_cases v1 : (s_X10_isWithin p0 1 200) = 0
  · intro b u q hq
    obtain ⟨X, Y⟩ := q
    subst hq
    exact ⟨_, 8, 132, Unit, n_bestMode_1 X p0, fun _ => Y, by decide, by decide, w_bestMode_1 l hl0 D cI cJ cO z b u X Y p0 v1, fun _ => rfl⟩
  · intro b u q hq
    obtain ⟨X, Y⟩ := q
    subst hq
    exact ⟨_, 7, 162, Unit, n_bestMode_0 X p0, fun _ => Y, by decide, by decide, w_bestMode_0 l hl0 D cI cJ cO z b u X Y p0 hsb v1, fun _ => rfl⟩
theorem r_v01 (X : kXS) : r_valueIn_1 X 0 1 = (mnR X.1 X.2.1).2.2.1 0 := by
  unfold r_valueIn_1 s_X10_valueIn
  rw [vs_one X.1 X.2.1]
  unfold s_X10_valueIn_3 s_X10_valueIn_2
  rw [if_pos rfl] <;> rfl
theorem pw_v01 (l : Launch) (hl0 : l.stackTraces = false) (D : va_G) (cI cJ cO : ClassId) (z : zT) (V : pV) (hsb : kSb V.1) : pCall l D cI cJ cO z yL_valueIn cL_valueIn 4 [(0, 6, 7, 15), (0, 6, 11, 18)] [.int 0, .int 1] V ((mnR V.1 V.2.1).2.2.1 0) V := by
  intro b u q hq
  obtain ⟨X, Y⟩ := q
  subst hq
  have hw := w_valueIn_1 l hl0 D cI cJ cO z b u X Y 0 1 hsb (by decide) (by decide)
  rw [r_v01] at hw
  exact ⟨7, 159, Unit, n_valueIn_1 X 0 1, fun _ => Y, by decide, by decide, hw, fun _ => rfl⟩