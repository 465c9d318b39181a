
/-- all that the law's loop asks of a relation between the class' state and the reference's -/
def lawOK (l : Launch) (D : va_G) (cI cJ cO cD : ClassId) (z : zT) (R : kXS → kTS → kMS → Prop) (P : (Nat → Int64) → Prop) : Prop :=
  (∀ (f : Nat → Int32) (w : Nat → Int64), P w → kMI f w) ∧
  (∀ (f : Nat → Int32) (w : Nat → Int64), P w → P (s_X11_minute f w)) ∧
  (∀ {X : kXS} {Y : kTS} {M : kMS} (b o : Nat) (u : Nat → Nat) (fo : Nat → Int64) (p0 : Int32) (p1 : Int32), R X Y M → lStep l D cI cJ cO z yL_set cL_set 5 [(0, 10, 13, 13), (0, 10, 17, 15)] [.ref b, .int p0, .int p1, .ref o] b o u X Y fo (a_set M p0 p1) ((q_set M p0 p1).1 7) (fun X2 Y2 => R X2 Y2 (q_set M p0 p1))) ∧
  (∀ {X : kXS} {Y : kTS} {M : kMS}, R X Y M → kIn (M.1 5) 0 6) ∧
  (∀ {X : kXS} {Y : kTS} {M : kMS} (b o : Nat) (u : Nat → Nat) (fo : Nat → Int64) (p0 : Int32) (p1 : Int32) (p2 : Int32) (p3 : Int32), R X Y M → lStep l D cI cJ cO z yL_setMode cL_setMode 7 [(0, 14, 17, 13), (0, 14, 21, 15)] [.ref b, .int p0, .int p1, .int p2, .int p3, .ref o] b o u X Y fo (a_setMode M p0 p1 p2 p3) ((q_setMode M p0 p1 p2 p3).1 7) (fun X2 Y2 => R X2 Y2 (q_setMode M p0 p1 p2 p3))) ∧
  (∀ {X : kXS} {Y : kTS} {M : kMS}, R X Y M → kIn (M.1 5) 0 6) ∧
  (∀ {X : kXS} {Y : kTS} {M : kMS} (b o : Nat) (u : Nat → Nat) (fo : Nat → Int64) (p0 : Int32) (p1 : Int32), R X Y M → lStep l D cI cJ cO z yL_setPoints cL_setPoints 5 [(0, 10, 13, 15), (0, 10, 17, 24)] [.ref b, .int p0, .int p1, .ref o] b o u X Y fo (a_setPoints M p0 p1) ((q_setPoints M p0 p1).1 7) (fun X2 Y2 => R X2 Y2 (q_setPoints M p0 p1))) ∧
  (∀ {X : kXS} {Y : kTS} {M : kMS}, R X Y M → kIn (M.1 5) 0 6) ∧
  (∀ {X : kXS} {Y : kTS} {M : kMS} (b o : Nat) (u : Nat → Nat) (fo : Nat → Int64) (p0 : Int32), R X Y M → lStep l D cI cJ cO z yL_door cL_door 4 [(0, 9, 12, 24)] [.ref b, .int (bz p0), .ref o] b o u X Y fo (a_door M (bz p0)) ((q_door M (bz p0)).1 7) (fun X2 Y2 => R X2 Y2 (q_door M (bz p0)))) ∧
  (∀ {X : kXS} {Y : kTS} {M : kMS}, R X Y M → kIn (M.1 5) 0 6) ∧
  (∀ {X : kXS} {Y : kTS} {M : kMS}, R X Y M → kInL (M.2.1 46) 0 24) ∧
  (∀ {X : kXS} {Y : kTS} {M : kMS} (b o : Nat) (u : Nat → Nat) (fo : Nat → Int64) (p0 : Int32), R X Y M → lStep l D cI cJ cO z yL_pass cL_pass 4 [(0, 9, 12, 15), (0, 9, 15, 24)] [.ref b, .int p0, .ref o] b o u X Y fo (a_pass M p0) ((q_pass M p0).1 7) (fun X2 Y2 => R X2 Y2 (q_pass M p0))) ∧
  (∀ {X : kXS} {Y : kTS} {M : kMS}, R X Y M → kIn (M.1 5) 0 6) ∧
  (∀ {X : kXS} {Y : kTS} {M : kMS}, R X Y M → P M.2.1) ∧
  (∀ {X : kXS} {Y : kTS} {M : kMS} (b o : Nat) (u : Nat → Nat) (fo : Nat → Int64) (p0 : Int32) (p1 : Int32) (p2 : Int32) (p3 : Int32), R X Y M → lStep l D cI cJ cO z yL_addSegment cL_addSegment 7 [(0, 14, 17, 15), (0, 14, 21, 24)] [.ref b, .int p0, .int p1, .int p2, .int p3, .ref o] b o u X Y fo (a_addSegment M p0 p1 p2 p3) ((q_addSegment M p0 p1 p2 p3).1 7) (fun X2 Y2 => R X2 Y2 (q_addSegment M p0 p1 p2 p3))) ∧
  (∀ {X : kXS} {Y : kTS} {M : kMS}, R X Y M → kIn (M.1 5) 0 6) ∧
  (∀ {X : kXS} {Y : kTS} {M : kMS}, R X Y M → kInL (M.2.1 43) 0 12) ∧
  (∀ {X : kXS} {Y : kTS} {M : kMS} (b o : Nat) (u : Nat → Nat) (fo : Nat → Int64) (p0 : Int32), R X Y M → lStep l D cI cJ cO z yL_removeSegment cL_removeSegment 4 [(0, 9, 12, 13), (0, 9, 15, 24)] [.ref b, .int p0, .ref o] b o u X Y fo (a_removeSegment M p0) ((q_removeSegment M p0).1 7) (fun X2 Y2 => R X2 Y2 (q_removeSegment M p0))) ∧
  (∀ {X : kXS} {Y : kTS} {M : kMS}, R X Y M → kIn (M.1 5) 0 6) ∧
  (∀ {X : kXS} {Y : kTS} {M : kMS}, R X Y M → kInL (M.2.1 43) 0 12) ∧
  (∀ {X : kXS} {Y : kTS} {M : kMS} (b o : Nat) (u : Nat → Nat) (fo : Nat → Int64) (p0 : Int32), R X Y M → lStep l D cI cJ cO z yL_setCycles cL_setCycles 4 [(0, 9, 12, 15), (0, 9, 15, 24)] [.ref b, .int p0, .ref o] b o u X Y fo (a_setCycles M p0) ((q_setCycles M p0).1 7) (fun X2 Y2 => R X2 Y2 (q_setCycles M p0))) ∧
  (∀ {X : kXS} {Y : kTS} {M : kMS}, R X Y M → kIn (M.1 5) 0 6) ∧
  (∀ {X : kXS} {Y : kTS} {M : kMS} (b o : Nat) (u : Nat → Nat) (fo : Nat → Int64), R X Y M → lStep l D cI cJ cO z yL_start cL_start 3 [(0, 8, 11, 24)] [.ref b, .ref o] b o u X Y fo (a_start M) ((q_start M).1 7) (fun X2 Y2 => R X2 Y2 (q_start M))) ∧
  (∀ {X : kXS} {Y : kTS} {M : kMS}, R X Y M → kIn (M.1 5) 0 6) ∧
  (∀ {X : kXS} {Y : kTS} {M : kMS}, R X Y M → kInL (M.2.1 46) 0 24) ∧
  (∀ {X : kXS} {Y : kTS} {M : kMS} (b o : Nat) (u : Nat → Nat) (fo : Nat → Int64), R X Y M → lStep l D cI cJ cO z yL_stop cL_stop 3 [(0, 8, 11, 24)] [.ref b, .ref o] b o u X Y fo (a_stop M) ((q_stop M).1 7) (fun X2 Y2 => R X2 Y2 (q_stop M))) ∧
  (∀ {X : kXS} {Y : kTS} {M : kMS}, R X Y M → kIn (M.1 5) 0 6) ∧
  (∀ {X : kXS} {Y : kTS} {M : kMS}, R X Y M → kInL (M.2.1 46) 0 24) ∧
  (∀ {X : kXS} {Y : kTS} {M : kMS} (b o : Nat) (u : Nat → Nat) (fo : Nat → Int64) (p0 : Int32), R X Y M → lStep l D cI cJ cO z yL_hold cL_hold 4 [(0, 9, 12, 24)] [.ref b, .int (bz p0), .ref o] b o u X Y fo (a_hold M (bz p0)) ((q_hold M (bz p0)).1 7) (fun X2 Y2 => R X2 Y2 (q_hold M (bz p0)))) ∧
  (∀ {X : kXS} {Y : kTS} {M : kMS}, R X Y M → kIn (M.1 5) 0 6) ∧
  (∀ {X : kXS} {Y : kTS} {M : kMS} (b o : Nat) (u : Nat → Nat) (fo : Nat → Int64), R X Y M → lStep l D cI cJ cO z yL_undo cL_undo 3 [(0, 8, 11, 24)] [.ref b, .ref o] b o u X Y fo (a_undo M) ((q_undo M).1 7) (fun X2 Y2 => R X2 Y2 (q_undo M))) ∧
  (∀ {X : kXS} {Y : kTS} {M : kMS}, R X Y M → kIn (M.1 5) 0 6) ∧
  (∀ {X : kXS} {Y : kTS} {M : kMS} (b o : Nat) (u : Nat → Nat) (fo : Nat → Int64) (p0 : Int32), R X Y M → lStep l D cI cJ cO z yL_value cL_value 4 [(0, 9, 12, 15)] [.ref b, .int p0, .ref o] b o u X Y fo (a_value M p0) ((q_value M p0).1 7) (fun X2 Y2 => R X2 Y2 (q_value M p0))) ∧
  (∀ {X : kXS} {Y : kTS} {M : kMS} (b o : Nat) (u : Nat → Nat) (fo : Nat → Int64) (p0 : Int32), R X Y M → lStep l D cI cJ cO z yL_setting cL_setting 4 [(0, 9, 12, 13)] [.ref b, .int p0, .ref o] b o u X Y fo (a_setting M p0) ((q_setting M p0).1 7) (fun X2 Y2 => R X2 Y2 (q_setting M p0))) ∧
  (∀ {X : kXS} {Y : kTS} {M : kMS} (b o : Nat) (u : Nat → Nat) (fo : Nat → Int64) (p0 : Int32) (p1 : Int32), R X Y M → lStep l D cI cJ cO z yL_segment cL_segment 5 [(0, 10, 13, 13), (0, 10, 17, 15)] [.ref b, .int p0, .int p1, .ref o] b o u X Y fo (a_segment M p0 p1) ((q_segment M p0 p1).1 7) (fun X2 Y2 => R X2 Y2 (q_segment M p0 p1))) ∧
  (∀ {X : kXS} {Y : kTS} {M : kMS}, R X Y M → kInL (M.2.1 43) 0 12) ∧
  (∀ {X : kXS} {Y : kTS} {M : kMS} (b o : Nat) (u : Nat → Nat) (fo : Nat → Int64) (p0 : Int32) (p1 : Int32), R X Y M → lStep l D cI cJ cO z yL_result cL_result 5 [(0, 10, 13, 15)] [.ref b, .int p0, .int p1, .ref o] b o u X Y fo (a_result M p0 p1) ((q_result M p0 p1).1 7) (fun X2 Y2 => R X2 Y2 (q_result M p0 p1))) ∧
  (∀ {X : kXS} {Y : kTS} {M : kMS}, R X Y M → kInL (M.2.1 45) 0 16) ∧
  (∀ {X : kXS} {Y : kTS} {M : kMS} (b o : Nat) (u : Nat → Nat) (fo : Nat → Int64) (p0 : Int32) (p1 : Int32), R X Y M → lStep l D cI cJ cO z yL_audit cL_audit 5 [(0, 10, 13, 15)] [.ref b, .int p0, .int p1, .ref o] b o u X Y fo (a_audit M p0 p1) ((q_audit M p0 p1).1 7) (fun X2 Y2 => R X2 Y2 (q_audit M p0 p1))) ∧
  (∀ {X : kXS} {Y : kTS} {M : kMS}, R X Y M → kInL (M.2.1 46) 0 24) ∧
  (∀ {X : kXS} {Y : kTS} {M : kMS}, R X Y M → r_auditCode X = (a_auditCode M)) ∧
  (∀ {X : kXS} {Y : kTS} {M : kMS}, R X Y M → R (n_auditCode X) Y (q_auditCode M)) ∧
  (∀ {X : kXS} {Y : kTS} {M : kMS} (b o : Nat) (u : Nat → Nat) (fo : Nat → Int64) (p0 : Int32), R X Y M → lStep l D cI cJ cO z yL_history cL_history 4 [(0, 9, 12, 15)] [.ref b, .int p0, .ref o] b o u X Y fo (a_history M p0) ((q_history M p0).1 7) (fun X2 Y2 => R X2 Y2 (q_history M p0))) ∧
  (∀ {X : kXS} {Y : kTS} {M : kMS}, R X Y M → kInL (M.2.1 48) 0 60) ∧
  (∀ {X : kXS} {Y : kTS} {M : kMS} (b o : Nat) (u : Nat → Nat) (fo : Nat → Int64) (p0 : Int32), R X Y M → lStep l D cI cJ cO z yL_spread cL_spread 4 [(0, 9, 12, 15)] [.ref b, .int p0, .ref o] b o u X Y fo (a_spread M p0) ((q_spread M p0).1 7) (fun X2 Y2 => R X2 Y2 (q_spread M p0))) ∧
  (∀ {X : kXS} {Y : kTS} {M : kMS}, R X Y M → kInL (M.2.1 48) 0 60) ∧
  (∀ {X : kXS} {Y : kTS} {M : kMS} (b o oD : Nat) (u : Nat → Nat) (fo : Nat → Int64) (fd : Nat → UInt64) (p0 : Int32), R X Y M → lStepD l D cI cJ cO cD z yL_mean cL_mean 4 [(0, 8, 11, 15)] [.ref b, .int p0, .ref oD] b o oD u X Y fo fd (a_mean M p0) ((q_mean M p0).1 7)) ∧
  (∀ {X : kXS} {Y : kTS} {M : kMS} (p0 : Int32), R X Y M → R X Y (q_mean M p0)) ∧
  (∀ {X : kXS} {Y : kTS} {M : kMS}, R X Y M → kInL (M.2.1 48) 0 60) ∧
  (∀ {X : kXS} {Y : kTS} {M : kMS} (b o : Nat) (u : Nat → Nat) (fo : Nat → Int64) (p0 : Int32) (p1 : Int32), R X Y M → lStep l D cI cJ cO z yL_valueIn cL_valueIn 5 [(0, 10, 13, 13), (0, 10, 17, 15)] [.ref b, .int p0, .int p1, .ref o] b o u X Y fo (a_valueIn M p0 p1) ((q_valueIn M p0 p1).1 7) (fun X2 Y2 => R X2 Y2 (q_valueIn M p0 p1))) ∧
  (∀ {X : kXS} {Y : kTS} {M : kMS}, R X Y M → P M.2.1) ∧
  (∀ {X : kXS} {Y : kTS} {M : kMS} (b o : Nat) (u : Nat → Nat) (fo : Nat → Int64), R X Y M → lStep l D cI cJ cO z yL_doneIn cL_doneIn 3 [(0, 8, 11, 24)] [.ref b, .ref o] b o u X Y fo (a_doneIn M) ((q_doneIn M).1 7) (fun X2 Y2 => R X2 Y2 (q_doneIn M))) ∧
  (∀ {X : kXS} {Y : kTS} {M : kMS}, R X Y M → P M.2.1) ∧
  (∀ {X : kXS} {Y : kTS} {M : kMS} (b o : Nat) (u : Nat → Nat) (fo : Nat → Int64) (p0 : Int32), R X Y M → lStep l D cI cJ cO z yL_reachIn cL_reachIn 4 [(0, 9, 12, 15)] [.ref b, .int p0, .ref o] b o u X Y fo (a_reachIn M p0) ((q_reachIn M p0).1 7) (fun X2 Y2 => R X2 Y2 (q_reachIn M p0))) ∧
  (∀ {X : kXS} {Y : kTS} {M : kMS} (p0 : Int32), R X Y M → P (vp_updL (vp_updL (vp_updL M.2.1 33 0) 16 0) 14 (Int32.toInt64 p0))) ∧
  (∀ {X : kXS} {Y : kTS} {M : kMS} (b o : Nat) (u : Nat → Nat) (fo : Nat → Int64) (p0 : Int32), R X Y M → lStep l D cI cJ cO z yL_bestMode cL_bestMode 4 [(0, 9, 12, 15)] [.ref b, .int p0, .ref o] b o u X Y fo (a_bestMode M p0) ((q_bestMode M p0).1 7) (fun X2 Y2 => R X2 Y2 (q_bestMode M p0))) ∧
  (∀ {X : kXS} {Y : kTS} {M : kMS}, R X Y M → ∀ (v : Nat → Int64) (m : Int32), (∀ k : Nat, k < 294 → v k = M.2.1 k) → kIn m 0 2 → P (vp_updL v 17 (Int32.toInt64 m))) ∧
  (∀ {X : kXS} {Y : kTS} {M : kMS} (b o : Nat) (u : Nat → Nat) (fo : Nat → Int64) (p0 : Int32), R X Y M → lStep l D cI cJ cO z yL_append cL_append 4 [(0, 9, 12, 15), (0, 9, 15, 24)] [.ref b, .int p0, .ref o] b o u X Y fo (a_append M p0) ((q_append M p0).1 7) (fun X2 Y2 => R X2 Y2 (q_append M p0))) ∧
  (∀ {X : kXS} {Y : kTS} {M : kMS}, R X Y M → kIn (M.1 6) 0 90) ∧
  (∀ {X : kXS} {Y : kTS} {M : kMS}, R X Y M → r_clear X = (a_clear M)) ∧
  (∀ {X : kXS} {Y : kTS} {M : kMS}, R X Y M → R (n_clear X) Y (q_clear M)) ∧
  (∀ {X : kXS} {Y : kTS} {M : kMS}, R X Y M → kIn (M.1 6) 0 90) ∧
  (∀ {X : kXS} {Y : kTS} {M : kMS}, R X Y M → r_errorPosition X = (a_errorPosition M)) ∧
  (∀ {X : kXS} {Y : kTS} {M : kMS}, R X Y M → R (n_errorPosition X) Y (q_errorPosition M)) ∧
  (∀ {X : kXS} {Y : kTS} {M : kMS} (b o : Nat) (u : Nat → Nat) (fo : Nat → Int64), R X Y M → lStep l D cI cJ cO z yL_load cL_load 3 [(0, 8, 11, 15), (0, 8, 14, 24)] [.ref b, .ref o] b o u X Y fo (a_load M) ((q_load M).1 7) (fun X2 Y2 => R X2 Y2 (q_load M))) ∧
  (∀ {X : kXS} {Y : kTS} {M : kMS}, R X Y M → kIn (M.1 5) 0 6) ∧
  (∀ {X : kXS} {Y : kTS} {M : kMS}, R X Y M → kIn (M.1 6) 0 90)
theorem lawOK.hPM {l : Launch} {D : va_G} {cI cJ cO cD : ClassId} {z : zT} {R : kXS → kTS → kMS → Prop} {P : (Nat → Int64) → Prop} (H : lawOK l D cI cJ cO cD z R P) : ∀ (f : Nat → Int32) (w : Nat → Int64), P w → kMI f w := H.1
theorem lawOK.hPs {l : Launch} {D : va_G} {cI cJ cO cD : ClassId} {z : zT} {R : kXS → kTS → kMS → Prop} {P : (Nat → Int64) → Prop} (H : lawOK l D cI cJ cO cD z R P) : ∀ (f : Nat → Int32) (w : Nat → Int64), P w → P (s_X11_minute f w) := H.2.1
theorem lawOK.s_0 {l : Launch} {D : va_G} {cI cJ cO cD : ClassId} {z : zT} {R : kXS → kTS → kMS → Prop} {P : (Nat → Int64) → Prop} (H : lawOK l D cI cJ cO cD z R P) : ∀ {X : kXS} {Y : kTS} {M : kMS} (b o : Nat) (u : Nat → Nat) (fo : Nat → Int64) (p0 : Int32) (p1 : Int32), R X Y M → lStep l D cI cJ cO z yL_set cL_set 5 [(0, 10, 13, 13), (0, 10, 17, 15)] [.ref b, .int p0, .int p1, .ref o] b o u X Y fo (a_set M p0 p1) ((q_set M p0 p1).1 7) (fun X2 Y2 => R X2 Y2 (q_set M p0 p1)) := H.2.2.1
theorem lawOK.f_0_hf_t_5 {l : Launch} {D : va_G} {cI cJ cO cD : ClassId} {z : zT} {R : kXS → kTS → kMS → Prop} {P : (Nat → Int64) → Prop} (H : lawOK l D cI cJ cO cD z R P) : ∀ {X : kXS} {Y : kTS} {M : kMS}, R X Y M → kIn (M.1 5) 0 6 := H.2.2.2.1
theorem lawOK.s_1 {l : Launch} {D : va_G} {cI cJ cO cD : ClassId} {z : zT} {R : kXS → kTS → kMS → Prop} {P : (Nat → Int64) → Prop} (H : lawOK l D cI cJ cO cD z R P) : ∀ {X : kXS} {Y : kTS} {M : kMS} (b o : Nat) (u : Nat → Nat) (fo : Nat → Int64) (p0 : Int32) (p1 : Int32) (p2 : Int32) (p3 : Int32), R X Y M → lStep l D cI cJ cO z yL_setMode cL_setMode 7 [(0, 14, 17, 13), (0, 14, 21, 15)] [.ref b, .int p0, .int p1, .int p2, .int p3, .ref o] b o u X Y fo (a_setMode M p0 p1 p2 p3) ((q_setMode M p0 p1 p2 p3).1 7) (fun X2 Y2 => R X2 Y2 (q_setMode M p0 p1 p2 p3)) := H.2.2.2.2.1
theorem lawOK.f_1_hf_t_5 {l : Launch} {D : va_G} {cI cJ cO cD : ClassId} {z : zT} {R : kXS → kTS → kMS → Prop} {P : (Nat → Int64) → Prop} (H : lawOK l D cI cJ cO cD z R P) : ∀ {X : kXS} {Y : kTS} {M : kMS}, R X Y M → kIn (M.1 5) 0 6 := H.2.2.2.2.2.1
theorem lawOK.s_2 {l : Launch} {D : va_G} {cI cJ cO cD : ClassId} {z : zT} {R : kXS → kTS → kMS → Prop} {P : (Nat → Int64) → Prop} (H : lawOK l D cI cJ cO cD z R P) : ∀ {X : kXS} {Y : kTS} {M : kMS} (b o : Nat) (u : Nat → Nat) (fo : Nat → Int64) (p0 : Int32) (p1 : Int32), R X Y M → lStep l D cI cJ cO z yL_setPoints cL_setPoints 5 [(0, 10, 13, 15), (0, 10, 17, 24)] [.ref b, .int p0, .int p1, .ref o] b o u X Y fo (a_setPoints M p0 p1) ((q_setPoints M p0 p1).1 7) (fun X2 Y2 => R X2 Y2 (q_setPoints M p0 p1)) := H.2.2.2.2.2.2.1
theorem lawOK.f_2_hf_t_5 {l : Launch} {D : va_G} {cI cJ cO cD : ClassId} {z : zT} {R : kXS → kTS → kMS → Prop} {P : (Nat → Int64) → Prop} (H : lawOK l D cI cJ cO cD z R P) : ∀ {X : kXS} {Y : kTS} {M : kMS}, R X Y M → kIn (M.1 5) 0 6 := H.2.2.2.2.2.2.2.1
theorem lawOK.s_3 {l : Launch} {D : va_G} {cI cJ cO cD : ClassId} {z : zT} {R : kXS → kTS → kMS → Prop} {P : (Nat → Int64) → Prop} (H : lawOK l D cI cJ cO cD z R P) : ∀ {X : kXS} {Y : kTS} {M : kMS} (b o : Nat) (u : Nat → Nat) (fo : Nat → Int64) (p0 : Int32), R X Y M → lStep l D cI cJ cO z yL_door cL_door 4 [(0, 9, 12, 24)] [.ref b, .int (bz p0), .ref o] b o u X Y fo (a_door M (bz p0)) ((q_door M (bz p0)).1 7) (fun X2 Y2 => R X2 Y2 (q_door M (bz p0))) := H.2.2.2.2.2.2.2.2.1
theorem lawOK.f_3_hf_t_5 {l : Launch} {D : va_G} {cI cJ cO cD : ClassId} {z : zT} {R : kXS → kTS → kMS → Prop} {P : (Nat → Int64) → Prop} (H : lawOK l D cI cJ cO cD z R P) : ∀ {X : kXS} {Y : kTS} {M : kMS}, R X Y M → kIn (M.1 5) 0 6 := H.2.2.2.2.2.2.2.2.2.1
theorem lawOK.f_3_hf_t_w_46 {l : Launch} {D : va_G} {cI cJ cO cD : ClassId} {z : zT} {R : kXS → kTS → kMS → Prop} {P : (Nat → Int64) → Prop} (H : lawOK l D cI cJ cO cD z R P) : ∀ {X : kXS} {Y : kTS} {M : kMS}, R X Y M → kInL (M.2.1 46) 0 24 := H.2.2.2.2.2.2.2.2.2.2.1
theorem lawOK.s_4 {l : Launch} {D : va_G} {cI cJ cO cD : ClassId} {z : zT} {R : kXS → kTS → kMS → Prop} {P : (Nat → Int64) → Prop} (H : lawOK l D cI cJ cO cD z R P) : ∀ {X : kXS} {Y : kTS} {M : kMS} (b o : Nat) (u : Nat → Nat) (fo : Nat → Int64) (p0 : Int32), R X Y M → lStep l D cI cJ cO z yL_pass cL_pass 4 [(0, 9, 12, 15), (0, 9, 15, 24)] [.ref b, .int p0, .ref o] b o u X Y fo (a_pass M p0) ((q_pass M p0).1 7) (fun X2 Y2 => R X2 Y2 (q_pass M p0)) := H.2.2.2.2.2.2.2.2.2.2.2.1
theorem lawOK.f_4_hf_t_5 {l : Launch} {D : va_G} {cI cJ cO cD : ClassId} {z : zT} {R : kXS → kTS → kMS → Prop} {P : (Nat → Int64) → Prop} (H : lawOK l D cI cJ cO cD z R P) : ∀ {X : kXS} {Y : kTS} {M : kMS}, R X Y M → kIn (M.1 5) 0 6 := H.2.2.2.2.2.2.2.2.2.2.2.2.1
theorem lawOK.f_4_hP0 {l : Launch} {D : va_G} {cI cJ cO cD : ClassId} {z : zT} {R : kXS → kTS → kMS → Prop} {P : (Nat → Int64) → Prop} (H : lawOK l D cI cJ cO cD z R P) : ∀ {X : kXS} {Y : kTS} {M : kMS}, R X Y M → P M.2.1 := H.2.2.2.2.2.2.2.2.2.2.2.2.2.1
theorem lawOK.s_5 {l : Launch} {D : va_G} {cI cJ cO cD : ClassId} {z : zT} {R : kXS → kTS → kMS → Prop} {P : (Nat → Int64) → Prop} (H : lawOK l D cI cJ cO cD z R P) : ∀ {X : kXS} {Y : kTS} {M : kMS} (b o : Nat) (u : Nat → Nat) (fo : Nat → Int64) (p0 : Int32) (p1 : Int32) (p2 : Int32) (p3 : Int32), R X Y M → lStep l D cI cJ cO z yL_addSegment cL_addSegment 7 [(0, 14, 17, 15), (0, 14, 21, 24)] [.ref b, .int p0, .int p1, .int p2, .int p3, .ref o] b o u X Y fo (a_addSegment M p0 p1 p2 p3) ((q_addSegment M p0 p1 p2 p3).1 7) (fun X2 Y2 => R X2 Y2 (q_addSegment M p0 p1 p2 p3)) := H.2.2.2.2.2.2.2.2.2.2.2.2.2.2.1
theorem lawOK.f_5_hf_t_5 {l : Launch} {D : va_G} {cI cJ cO cD : ClassId} {z : zT} {R : kXS → kTS → kMS → Prop} {P : (Nat → Int64) → Prop} (H : lawOK l D cI cJ cO cD z R P) : ∀ {X : kXS} {Y : kTS} {M : kMS}, R X Y M → kIn (M.1 5) 0 6 := H.2.2.2.2.2.2.2.2.2.2.2.2.2.2.2.1
theorem lawOK.f_5_hf_t_w_43 {l : Launch} {D : va_G} {cI cJ cO cD : ClassId} {z : zT} {R : kXS → kTS → kMS → Prop} {P : (Nat → Int64) → Prop} (H : lawOK l D cI cJ cO cD z R P) : ∀ {X : kXS} {Y : kTS} {M : kMS}, R X Y M → kInL (M.2.1 43) 0 12 := H.2.2.2.2.2.2.2.2.2.2.2.2.2.2.2.2.1
theorem lawOK.s_6 {l : Launch} {D : va_G} {cI cJ cO cD : ClassId} {z : zT} {R : kXS → kTS → kMS → Prop} {P : (Nat → Int64) → Prop} (H : lawOK l D cI cJ cO cD z R P) : ∀ {X : kXS} {Y : kTS} {M : kMS} (b o : Nat) (u : Nat → Nat) (fo : Nat → Int64) (p0 : Int32), R X Y M → lStep l D cI cJ cO z yL_removeSegment cL_removeSegment 4 [(0, 9, 12, 13), (0, 9, 15, 24)] [.ref b, .int p0, .ref o] b o u X Y fo (a_removeSegment M p0) ((q_removeSegment M p0).1 7) (fun X2 Y2 => R X2 Y2 (q_removeSegment M p0)) := H.2.2.2.2.2.2.2.2.2.2.2.2.2.2.2.2.2.1
theorem lawOK.f_6_hf_t_5 {l : Launch} {D : va_G} {cI cJ cO cD : ClassId} {z : zT} {R : kXS → kTS → kMS → Prop} {P : (Nat → Int64) → Prop} (H : lawOK l D cI cJ cO cD z R P) : ∀ {X : kXS} {Y : kTS} {M : kMS}, R X Y M → kIn (M.1 5) 0 6 := H.2.2.2.2.2.2.2.2.2.2.2.2.2.2.2.2.2.2.1
theorem lawOK.f_6_hf_t_w_43 {l : Launch} {D : va_G} {cI cJ cO cD : ClassId} {z : zT} {R : kXS → kTS → kMS → Prop} {P : (Nat → Int64) → Prop} (H : lawOK l D cI cJ cO cD z R P) : ∀ {X : kXS} {Y : kTS} {M : kMS}, R X Y M → kInL (M.2.1 43) 0 12 := H.2.2.2.2.2.2.2.2.2.2.2.2.2.2.2.2.2.2.2.1
theorem lawOK.s_7 {l : Launch} {D : va_G} {cI cJ cO cD : ClassId} {z : zT} {R : kXS → kTS → kMS → Prop} {P : (Nat → Int64) → Prop} (H : lawOK l D cI cJ cO cD z R P) : ∀ {X : kXS} {Y : kTS} {M : kMS} (b o : Nat) (u : Nat → Nat) (fo : Nat → Int64) (p0 : Int32), R X Y M → lStep l D cI cJ cO z yL_setCycles cL_setCycles 4 [(0, 9, 12, 15), (0, 9, 15, 24)] [.ref b, .int p0, .ref o] b o u X Y fo (a_setCycles M p0) ((q_setCycles M p0).1 7) (fun X2 Y2 => R X2 Y2 (q_setCycles M p0)) := H.2.2.2.2.2.2.2.2.2.2.2.2.2.2.2.2.2.2.2.2.1
theorem lawOK.f_7_hf_t_5 {l : Launch} {D : va_G} {cI cJ cO cD : ClassId} {z : zT} {R : kXS → kTS → kMS → Prop} {P : (Nat → Int64) → Prop} (H : lawOK l D cI cJ cO cD z R P) : ∀ {X : kXS} {Y : kTS} {M : kMS}, R X Y M → kIn (M.1 5) 0 6 := H.2.2.2.2.2.2.2.2.2.2.2.2.2.2.2.2.2.2.2.2.2.1
theorem lawOK.s_8 {l : Launch} {D : va_G} {cI cJ cO cD : ClassId} {z : zT} {R : kXS → kTS → kMS → Prop} {P : (Nat → Int64) → Prop} (H : lawOK l D cI cJ cO cD z R P) : ∀ {X : kXS} {Y : kTS} {M : kMS} (b o : Nat) (u : Nat → Nat) (fo : Nat → Int64), R X Y M → lStep l D cI cJ cO z yL_start cL_start 3 [(0, 8, 11, 24)] [.ref b, .ref o] b o u X Y fo (a_start M) ((q_start M).1 7) (fun X2 Y2 => R X2 Y2 (q_start M)) := H.2.2.2.2.2.2.2.2.2.2.2.2.2.2.2.2.2.2.2.2.2.2.1
theorem lawOK.f_8_hf_t_5 {l : Launch} {D : va_G} {cI cJ cO cD : ClassId} {z : zT} {R : kXS → kTS → kMS → Prop} {P : (Nat → Int64) → Prop} (H : lawOK l D cI cJ cO cD z R P) : ∀ {X : kXS} {Y : kTS} {M : kMS}, R X Y M → kIn (M.1 5) 0 6 := H.2.2.2.2.2.2.2.2.2.2.2.2.2.2.2.2.2.2.2.2.2.2.2.1
theorem lawOK.f_8_hf_t_w_46 {l : Launch} {D : va_G} {cI cJ cO cD : ClassId} {z : zT} {R : kXS → kTS → kMS → Prop} {P : (Nat → Int64) → Prop} (H : lawOK l D cI cJ cO cD z R P) : ∀ {X : kXS} {Y : kTS} {M : kMS}, R X Y M → kInL (M.2.1 46) 0 24 := H.2.2.2.2.2.2.2.2.2.2.2.2.2.2.2.2.2.2.2.2.2.2.2.2.1
theorem lawOK.s_9 {l : Launch} {D : va_G} {cI cJ cO cD : ClassId} {z : zT} {R : kXS → kTS → kMS → Prop} {P : (Nat → Int64) → Prop} (H : lawOK l D cI cJ cO cD z R P) : ∀ {X : kXS} {Y : kTS} {M : kMS} (b o : Nat) (u : Nat → Nat) (fo : Nat → Int64), R X Y M → lStep l D cI cJ cO z yL_stop cL_stop 3 [(0, 8, 11, 24)] [.ref b, .ref o] b o u X Y fo (a_stop M) ((q_stop M).1 7) (fun X2 Y2 => R X2 Y2 (q_stop M)) := H.2.2.2.2.2.2.2.2.2.2.2.2.2.2.2.2.2.2.2.2.2.2.2.2.2.1
theorem lawOK.f_9_hf_t_5 {l : Launch} {D : va_G} {cI cJ cO cD : ClassId} {z : zT} {R : kXS → kTS → kMS → Prop} {P : (Nat → Int64) → Prop} (H : lawOK l D cI cJ cO cD z R P) : ∀ {X : kXS} {Y : kTS} {M : kMS}, R X Y M → kIn (M.1 5) 0 6 := H.2.2.2.2.2.2.2.2.2.2.2.2.2.2.2.2.2.2.2.2.2.2.2.2.2.2.1
theorem lawOK.f_9_hf_t_w_46 {l : Launch} {D : va_G} {cI cJ cO cD : ClassId} {z : zT} {R : kXS → kTS → kMS → Prop} {P : (Nat → Int64) → Prop} (H : lawOK l D cI cJ cO cD z R P) : ∀ {X : kXS} {Y : kTS} {M : kMS}, R X Y M → kInL (M.2.1 46) 0 24 := H.2.2.2.2.2.2.2.2.2.2.2.2.2.2.2.2.2.2.2.2.2.2.2.2.2.2.2.1
theorem lawOK.s_10 {l : Launch} {D : va_G} {cI cJ cO cD : ClassId} {z : zT} {R : kXS → kTS → kMS → Prop} {P : (Nat → Int64) → Prop} (H : lawOK l D cI cJ cO cD z R P) : ∀ {X : kXS} {Y : kTS} {M : kMS} (b o : Nat) (u : Nat → Nat) (fo : Nat → Int64) (p0 : Int32), R X Y M → lStep l D cI cJ cO z yL_hold cL_hold 4 [(0, 9, 12, 24)] [.ref b, .int (bz p0), .ref o] b o u X Y fo (a_hold M (bz p0)) ((q_hold M (bz p0)).1 7) (fun X2 Y2 => R X2 Y2 (q_hold M (bz p0))) := H.2.2.2.2.2.2.2.2.2.2.2.2.2.2.2.2.2.2.2.2.2.2.2.2.2.2.2.2.1
theorem lawOK.f_10_hf_t_5 {l : Launch} {D : va_G} {cI cJ cO cD : ClassId} {z : zT} {R : kXS → kTS → kMS → Prop} {P : (Nat → Int64) → Prop} (H : lawOK l D cI cJ cO cD z R P) : ∀ {X : kXS} {Y : kTS} {M : kMS}, R X Y M → kIn (M.1 5) 0 6 := H.2.2.2.2.2.2.2.2.2.2.2.2.2.2.2.2.2.2.2.2.2.2.2.2.2.2.2.2.2.1
theorem lawOK.s_11 {l : Launch} {D : va_G} {cI cJ cO cD : ClassId} {z : zT} {R : kXS → kTS → kMS → Prop} {P : (Nat → Int64) → Prop} (H : lawOK l D cI cJ cO cD z R P) : ∀ {X : kXS} {Y : kTS} {M : kMS} (b o : Nat) (u : Nat → Nat) (fo : Nat → Int64), R X Y M → lStep l D cI cJ cO z yL_undo cL_undo 3 [(0, 8, 11, 24)] [.ref b, .ref o] b o u X Y fo (a_undo M) ((q_undo M).1 7) (fun X2 Y2 => R X2 Y2 (q_undo M)) := H.2.2.2.2.2.2.2.2.2.2.2.2.2.2.2.2.2.2.2.2.2.2.2.2.2.2.2.2.2.2.1
theorem lawOK.f_11_hf_t_5 {l : Launch} {D : va_G} {cI cJ cO cD : ClassId} {z : zT} {R : kXS → kTS → kMS → Prop} {P : (Nat → Int64) → Prop} (H : lawOK l D cI cJ cO cD z R P) : ∀ {X : kXS} {Y : kTS} {M : kMS}, R X Y M → kIn (M.1 5) 0 6 := H.2.2.2.2.2.2.2.2.2.2.2.2.2.2.2.2.2.2.2.2.2.2.2.2.2.2.2.2.2.2.2.1
theorem lawOK.s_12 {l : Launch} {D : va_G} {cI cJ cO cD : ClassId} {z : zT} {R : kXS → kTS → kMS → Prop} {P : (Nat → Int64) → Prop} (H : lawOK l D cI cJ cO cD z R P) : ∀ {X : kXS} {Y : kTS} {M : kMS} (b o : Nat) (u : Nat → Nat) (fo : Nat → Int64) (p0 : Int32), R X Y M → lStep l D cI cJ cO z yL_value cL_value 4 [(0, 9, 12, 15)] [.ref b, .int p0, .ref o] b o u X Y fo (a_value M p0) ((q_value M p0).1 7) (fun X2 Y2 => R X2 Y2 (q_value M p0)) := H.2.2.2.2.2.2.2.2.2.2.2.2.2.2.2.2.2.2.2.2.2.2.2.2.2.2.2.2.2.2.2.2.1
theorem lawOK.s_13 {l : Launch} {D : va_G} {cI cJ cO cD : ClassId} {z : zT} {R : kXS → kTS → kMS → Prop} {P : (Nat → Int64) → Prop} (H : lawOK l D cI cJ cO cD z R P) : ∀ {X : kXS} {Y : kTS} {M : kMS} (b o : Nat) (u : Nat → Nat) (fo : Nat → Int64) (p0 : Int32), R X Y M → lStep l D cI cJ cO z yL_setting cL_setting 4 [(0, 9, 12, 13)] [.ref b, .int p0, .ref o] b o u X Y fo (a_setting M p0) ((q_setting M p0).1 7) (fun X2 Y2 => R X2 Y2 (q_setting M p0)) := H.2.2.2.2.2.2.2.2.2.2.2.2.2.2.2.2.2.2.2.2.2.2.2.2.2.2.2.2.2.2.2.2.2.1
theorem lawOK.s_14 {l : Launch} {D : va_G} {cI cJ cO cD : ClassId} {z : zT} {R : kXS → kTS → kMS → Prop} {P : (Nat → Int64) → Prop} (H : lawOK l D cI cJ cO cD z R P) : ∀ {X : kXS} {Y : kTS} {M : kMS} (b o : Nat) (u : Nat → Nat) (fo : Nat → Int64) (p0 : Int32) (p1 : Int32), R X Y M → lStep l D cI cJ cO z yL_segment cL_segment 5 [(0, 10, 13, 13), (0, 10, 17, 15)] [.ref b, .int p0, .int p1, .ref o] b o u X Y fo (a_segment M p0 p1) ((q_segment M p0 p1).1 7) (fun X2 Y2 => R X2 Y2 (q_segment M p0 p1)) := H.2.2.2.2.2.2.2.2.2.2.2.2.2.2.2.2.2.2.2.2.2.2.2.2.2.2.2.2.2.2.2.2.2.2.1
theorem lawOK.f_14_hf_t_w_43 {l : Launch} {D : va_G} {cI cJ cO cD : ClassId} {z : zT} {R : kXS → kTS → kMS → Prop} {P : (Nat → Int64) → Prop} (H : lawOK l D cI cJ cO cD z R P) : ∀ {X : kXS} {Y : kTS} {M : kMS}, R X Y M → kInL (M.2.1 43) 0 12 := H.2.2.2.2.2.2.2.2.2.2.2.2.2.2.2.2.2.2.2.2.2.2.2.2.2.2.2.2.2.2.2.2.2.2.2.1
theorem lawOK.s_15 {l : Launch} {D : va_G} {cI cJ cO cD : ClassId} {z : zT} {R : kXS → kTS → kMS → Prop} {P : (Nat → Int64) → Prop} (H : lawOK l D cI cJ cO cD z R P) : ∀ {X : kXS} {Y : kTS} {M : kMS} (b o : Nat) (u : Nat → Nat) (fo : Nat → Int64) (p0 : Int32) (p1 : Int32), R X Y M → lStep l D cI cJ cO z yL_result cL_result 5 [(0, 10, 13, 15)] [.ref b, .int p0, .int p1, .ref o] b o u X Y fo (a_result M p0 p1) ((q_result M p0 p1).1 7) (fun X2 Y2 => R X2 Y2 (q_result M p0 p1)) := H.2.2.2.2.2.2.2.2.2.2.2.2.2.2.2.2.2.2.2.2.2.2.2.2.2.2.2.2.2.2.2.2.2.2.2.2.1
theorem lawOK.f_15_hf_t_w_45 {l : Launch} {D : va_G} {cI cJ cO cD : ClassId} {z : zT} {R : kXS → kTS → kMS → Prop} {P : (Nat → Int64) → Prop} (H : lawOK l D cI cJ cO cD z R P) : ∀ {X : kXS} {Y : kTS} {M : kMS}, R X Y M → kInL (M.2.1 45) 0 16 := H.2.2.2.2.2.2.2.2.2.2.2.2.2.2.2.2.2.2.2.2.2.2.2.2.2.2.2.2.2.2.2.2.2.2.2.2.2.1
theorem lawOK.s_16 {l : Launch} {D : va_G} {cI cJ cO cD : ClassId} {z : zT} {R : kXS → kTS → kMS → Prop} {P : (Nat → Int64) → Prop} (H : lawOK l D cI cJ cO cD z R P) : ∀ {X : kXS} {Y : kTS} {M : kMS} (b o : Nat) (u : Nat → Nat) (fo : Nat → Int64) (p0 : Int32) (p1 : Int32), R X Y M → lStep l D cI cJ cO z yL_audit cL_audit 5 [(0, 10, 13, 15)] [.ref b, .int p0, .int p1, .ref o] b o u X Y fo (a_audit M p0 p1) ((q_audit M p0 p1).1 7) (fun X2 Y2 => R X2 Y2 (q_audit M p0 p1)) := H.2.2.2.2.2.2.2.2.2.2.2.2.2.2.2.2.2.2.2.2.2.2.2.2.2.2.2.2.2.2.2.2.2.2.2.2.2.2.1
theorem lawOK.f_16_hf_t_w_46 {l : Launch} {D : va_G} {cI cJ cO cD : ClassId} {z : zT} {R : kXS → kTS → kMS → Prop} {P : (Nat → Int64) → Prop} (H : lawOK l D cI cJ cO cD z R P) : ∀ {X : kXS} {Y : kTS} {M : kMS}, R X Y M → kInL (M.2.1 46) 0 24 := H.2.2.2.2.2.2.2.2.2.2.2.2.2.2.2.2.2.2.2.2.2.2.2.2.2.2.2.2.2.2.2.2.2.2.2.2.2.2.2.1
theorem lawOK.s_17 {l : Launch} {D : va_G} {cI cJ cO cD : ClassId} {z : zT} {R : kXS → kTS → kMS → Prop} {P : (Nat → Int64) → Prop} (H : lawOK l D cI cJ cO cD z R P) : ∀ {X : kXS} {Y : kTS} {M : kMS}, R X Y M → r_auditCode X = (a_auditCode M) := H.2.2.2.2.2.2.2.2.2.2.2.2.2.2.2.2.2.2.2.2.2.2.2.2.2.2.2.2.2.2.2.2.2.2.2.2.2.2.2.2.1
theorem lawOK.r_17 {l : Launch} {D : va_G} {cI cJ cO cD : ClassId} {z : zT} {R : kXS → kTS → kMS → Prop} {P : (Nat → Int64) → Prop} (H : lawOK l D cI cJ cO cD z R P) : ∀ {X : kXS} {Y : kTS} {M : kMS}, R X Y M → R (n_auditCode X) Y (q_auditCode M) := H.2.2.2.2.2.2.2.2.2.2.2.2.2.2.2.2.2.2.2.2.2.2.2.2.2.2.2.2.2.2.2.2.2.2.2.2.2.2.2.2.2.1
theorem lawOK.s_18 {l : Launch} {D : va_G} {cI cJ cO cD : ClassId} {z : zT} {R : kXS → kTS → kMS → Prop} {P : (Nat → Int64) → Prop} (H : lawOK l D cI cJ cO cD z R P) : ∀ {X : kXS} {Y : kTS} {M : kMS} (b o : Nat) (u : Nat → Nat) (fo : Nat → Int64) (p0 : Int32), R X Y M → lStep l D cI cJ cO z yL_history cL_history 4 [(0, 9, 12, 15)] [.ref b, .int p0, .ref o] b o u X Y fo (a_history M p0) ((q_history M p0).1 7) (fun X2 Y2 => R X2 Y2 (q_history M p0)) := H.2.2.2.2.2.2.2.2.2.2.2.2.2.2.2.2.2.2.2.2.2.2.2.2.2.2.2.2.2.2.2.2.2.2.2.2.2.2.2.2.2.2.1
theorem lawOK.f_18_hf_t_w_48 {l : Launch} {D : va_G} {cI cJ cO cD : ClassId} {z : zT} {R : kXS → kTS → kMS → Prop} {P : (Nat → Int64) → Prop} (H : lawOK l D cI cJ cO cD z R P) : ∀ {X : kXS} {Y : kTS} {M : kMS}, R X Y M → kInL (M.2.1 48) 0 60 := H.2.2.2.2.2.2.2.2.2.2.2.2.2.2.2.2.2.2.2.2.2.2.2.2.2.2.2.2.2.2.2.2.2.2.2.2.2.2.2.2.2.2.2.1
theorem lawOK.s_19 {l : Launch} {D : va_G} {cI cJ cO cD : ClassId} {z : zT} {R : kXS → kTS → kMS → Prop} {P : (Nat → Int64) → Prop} (H : lawOK l D cI cJ cO cD z R P) : ∀ {X : kXS} {Y : kTS} {M : kMS} (b o : Nat) (u : Nat → Nat) (fo : Nat → Int64) (p0 : Int32), R X Y M → lStep l D cI cJ cO z yL_spread cL_spread 4 [(0, 9, 12, 15)] [.ref b, .int p0, .ref o] b o u X Y fo (a_spread M p0) ((q_spread M p0).1 7) (fun X2 Y2 => R X2 Y2 (q_spread M p0)) := H.2.2.2.2.2.2.2.2.2.2.2.2.2.2.2.2.2.2.2.2.2.2.2.2.2.2.2.2.2.2.2.2.2.2.2.2.2.2.2.2.2.2.2.2.1
theorem lawOK.f_19_hf_t_w_48 {l : Launch} {D : va_G} {cI cJ cO cD : ClassId} {z : zT} {R : kXS → kTS → kMS → Prop} {P : (Nat → Int64) → Prop} (H : lawOK l D cI cJ cO cD z R P) : ∀ {X : kXS} {Y : kTS} {M : kMS}, R X Y M → kInL (M.2.1 48) 0 60 := H.2.2.2.2.2.2.2.2.2.2.2.2.2.2.2.2.2.2.2.2.2.2.2.2.2.2.2.2.2.2.2.2.2.2.2.2.2.2.2.2.2.2.2.2.2.1
theorem lawOK.s_20 {l : Launch} {D : va_G} {cI cJ cO cD : ClassId} {z : zT} {R : kXS → kTS → kMS → Prop} {P : (Nat → Int64) → Prop} (H : lawOK l D cI cJ cO cD z R P) : ∀ {X : kXS} {Y : kTS} {M : kMS} (b o oD : Nat) (u : Nat → Nat) (fo : Nat → Int64) (fd : Nat → UInt64) (p0 : Int32), R X Y M → lStepD l D cI cJ cO cD z yL_mean cL_mean 4 [(0, 8, 11, 15)] [.ref b, .int p0, .ref oD] b o oD u X Y fo fd (a_mean M p0) ((q_mean M p0).1 7) := H.2.2.2.2.2.2.2.2.2.2.2.2.2.2.2.2.2.2.2.2.2.2.2.2.2.2.2.2.2.2.2.2.2.2.2.2.2.2.2.2.2.2.2.2.2.2.1
theorem lawOK.r_20 {l : Launch} {D : va_G} {cI cJ cO cD : ClassId} {z : zT} {R : kXS → kTS → kMS → Prop} {P : (Nat → Int64) → Prop} (H : lawOK l D cI cJ cO cD z R P) : ∀ {X : kXS} {Y : kTS} {M : kMS} (p0 : Int32), R X Y M → R X Y (q_mean M p0) := H.2.2.2.2.2.2.2.2.2.2.2.2.2.2.2.2.2.2.2.2.2.2.2.2.2.2.2.2.2.2.2.2.2.2.2.2.2.2.2.2.2.2.2.2.2.2.2.1
theorem lawOK.f_20_hf_t_w_48 {l : Launch} {D : va_G} {cI cJ cO cD : ClassId} {z : zT} {R : kXS → kTS → kMS → Prop} {P : (Nat → Int64) → Prop} (H : lawOK l D cI cJ cO cD z R P) : ∀ {X : kXS} {Y : kTS} {M : kMS}, R X Y M → kInL (M.2.1 48) 0 60 := H.2.2.2.2.2.2.2.2.2.2.2.2.2.2.2.2.2.2.2.2.2.2.2.2.2.2.2.2.2.2.2.2.2.2.2.2.2.2.2.2.2.2.2.2.2.2.2.2.1
theorem lawOK.s_21 {l : Launch} {D : va_G} {cI cJ cO cD : ClassId} {z : zT} {R : kXS → kTS → kMS → Prop} {P : (Nat → Int64) → Prop} (H : lawOK l D cI cJ cO cD z R P) : ∀ {X : kXS} {Y : kTS} {M : kMS} (b o : Nat) (u : Nat → Nat) (fo : Nat → Int64) (p0 : Int32) (p1 : Int32), R X Y M → lStep l D cI cJ cO z yL_valueIn cL_valueIn 5 [(0, 10, 13, 13), (0, 10, 17, 15)] [.ref b, .int p0, .int p1, .ref o] b o u X Y fo (a_valueIn M p0 p1) ((q_valueIn M p0 p1).1 7) (fun X2 Y2 => R X2 Y2 (q_valueIn M p0 p1)) := H.2.2.2.2.2.2.2.2.2.2.2.2.2.2.2.2.2.2.2.2.2.2.2.2.2.2.2.2.2.2.2.2.2.2.2.2.2.2.2.2.2.2.2.2.2.2.2.2.2.1
theorem lawOK.f_21_hP0 {l : Launch} {D : va_G} {cI cJ cO cD : ClassId} {z : zT} {R : kXS → kTS → kMS → Prop} {P : (Nat → Int64) → Prop} (H : lawOK l D cI cJ cO cD z R P) : ∀ {X : kXS} {Y : kTS} {M : kMS}, R X Y M → P M.2.1 := H.2.2.2.2.2.2.2.2.2.2.2.2.2.2.2.2.2.2.2.2.2.2.2.2.2.2.2.2.2.2.2.2.2.2.2.2.2.2.2.2.2.2.2.2.2.2.2.2.2.2.1
theorem lawOK.s_22 {l : Launch} {D : va_G} {cI cJ cO cD : ClassId} {z : zT} {R : kXS → kTS → kMS → Prop} {P : (Nat → Int64) → Prop} (H : lawOK l D cI cJ cO cD z R P) : ∀ {X : kXS} {Y : kTS} {M : kMS} (b o : Nat) (u : Nat → Nat) (fo : Nat → Int64), R X Y M → lStep l D cI cJ cO z yL_doneIn cL_doneIn 3 [(0, 8, 11, 24)] [.ref b, .ref o] b o u X Y fo (a_doneIn M) ((q_doneIn M).1 7) (fun X2 Y2 => R X2 Y2 (q_doneIn M)) := H.2.2.2.2.2.2.2.2.2.2.2.2.2.2.2.2.2.2.2.2.2.2.2.2.2.2.2.2.2.2.2.2.2.2.2.2.2.2.2.2.2.2.2.2.2.2.2.2.2.2.2.1
theorem lawOK.f_22_hP0 {l : Launch} {D : va_G} {cI cJ cO cD : ClassId} {z : zT} {R : kXS → kTS → kMS → Prop} {P : (Nat → Int64) → Prop} (H : lawOK l D cI cJ cO cD z R P) : ∀ {X : kXS} {Y : kTS} {M : kMS}, R X Y M → P M.2.1 := H.2.2.2.2.2.2.2.2.2.2.2.2.2.2.2.2.2.2.2.2.2.2.2.2.2.2.2.2.2.2.2.2.2.2.2.2.2.2.2.2.2.2.2.2.2.2.2.2.2.2.2.2.1
theorem lawOK.s_23 {l : Launch} {D : va_G} {cI cJ cO cD : ClassId} {z : zT} {R : kXS → kTS → kMS → Prop} {P : (Nat → Int64) → Prop} (H : lawOK l D cI cJ cO cD z R P) : ∀ {X : kXS} {Y : kTS} {M : kMS} (b o : Nat) (u : Nat → Nat) (fo : Nat → Int64) (p0 : Int32), R X Y M → lStep l D cI cJ cO z yL_reachIn cL_reachIn 4 [(0, 9, 12, 15)] [.ref b, .int p0, .ref o] b o u X Y fo (a_reachIn M p0) ((q_reachIn M p0).1 7) (fun X2 Y2 => R X2 Y2 (q_reachIn M p0)) := H.2.2.2.2.2.2.2.2.2.2.2.2.2.2.2.2.2.2.2.2.2.2.2.2.2.2.2.2.2.2.2.2.2.2.2.2.2.2.2.2.2.2.2.2.2.2.2.2.2.2.2.2.2.1
theorem lawOK.f_23_hP0 {l : Launch} {D : va_G} {cI cJ cO cD : ClassId} {z : zT} {R : kXS → kTS → kMS → Prop} {P : (Nat → Int64) → Prop} (H : lawOK l D cI cJ cO cD z R P) : ∀ {X : kXS} {Y : kTS} {M : kMS} (p0 : Int32), R X Y M → P (vp_updL (vp_updL (vp_updL M.2.1 33 0) 16 0) 14 (Int32.toInt64 p0)) := H.2.2.2.2.2.2.2.2.2.2.2.2.2.2.2.2.2.2.2.2.2.2.2.2.2.2.2.2.2.2.2.2.2.2.2.2.2.2.2.2.2.2.2.2.2.2.2.2.2.2.2.2.2.2.1
theorem lawOK.s_24 {l : Launch} {D : va_G} {cI cJ cO cD : ClassId} {z : zT} {R : kXS → kTS → kMS → Prop} {P : (Nat → Int64) → Prop} (H : lawOK l D cI cJ cO cD z R P) : ∀ {X : kXS} {Y : kTS} {M : kMS} (b o : Nat) (u : Nat → Nat) (fo : Nat → Int64) (p0 : Int32), R X Y M → lStep l D cI cJ cO z yL_bestMode cL_bestMode 4 [(0, 9, 12, 15)] [.ref b, .int p0, .ref o] b o u X Y fo (a_bestMode M p0) ((q_bestMode M p0).1 7) (fun X2 Y2 => R X2 Y2 (q_bestMode M p0)) := H.2.2.2.2.2.2.2.2.2.2.2.2.2.2.2.2.2.2.2.2.2.2.2.2.2.2.2.2.2.2.2.2.2.2.2.2.2.2.2.2.2.2.2.2.2.2.2.2.2.2.2.2.2.2.2.1
theorem lawOK.f_24_hPm {l : Launch} {D : va_G} {cI cJ cO cD : ClassId} {z : zT} {R : kXS → kTS → kMS → Prop} {P : (Nat → Int64) → Prop} (H : lawOK l D cI cJ cO cD z R P) : ∀ {X : kXS} {Y : kTS} {M : kMS}, R X Y M → ∀ (v : Nat → Int64) (m : Int32), (∀ k : Nat, k < 294 → v k = M.2.1 k) → kIn m 0 2 → P (vp_updL v 17 (Int32.toInt64 m)) := H.2.2.2.2.2.2.2.2.2.2.2.2.2.2.2.2.2.2.2.2.2.2.2.2.2.2.2.2.2.2.2.2.2.2.2.2.2.2.2.2.2.2.2.2.2.2.2.2.2.2.2.2.2.2.2.2.1
theorem lawOK.s_25 {l : Launch} {D : va_G} {cI cJ cO cD : ClassId} {z : zT} {R : kXS → kTS → kMS → Prop} {P : (Nat → Int64) → Prop} (H : lawOK l D cI cJ cO cD z R P) : ∀ {X : kXS} {Y : kTS} {M : kMS} (b o : Nat) (u : Nat → Nat) (fo : Nat → Int64) (p0 : Int32), R X Y M → lStep l D cI cJ cO z yL_append cL_append 4 [(0, 9, 12, 15), (0, 9, 15, 24)] [.ref b, .int p0, .ref o] b o u X Y fo (a_append M p0) ((q_append M p0).1 7) (fun X2 Y2 => R X2 Y2 (q_append M p0)) := H.2.2.2.2.2.2.2.2.2.2.2.2.2.2.2.2.2.2.2.2.2.2.2.2.2.2.2.2.2.2.2.2.2.2.2.2.2.2.2.2.2.2.2.2.2.2.2.2.2.2.2.2.2.2.2.2.2.1
theorem lawOK.f_25_hf_t_6 {l : Launch} {D : va_G} {cI cJ cO cD : ClassId} {z : zT} {R : kXS → kTS → kMS → Prop} {P : (Nat → Int64) → Prop} (H : lawOK l D cI cJ cO cD z R P) : ∀ {X : kXS} {Y : kTS} {M : kMS}, R X Y M → kIn (M.1 6) 0 90 := H.2.2.2.2.2.2.2.2.2.2.2.2.2.2.2.2.2.2.2.2.2.2.2.2.2.2.2.2.2.2.2.2.2.2.2.2.2.2.2.2.2.2.2.2.2.2.2.2.2.2.2.2.2.2.2.2.2.2.1
theorem lawOK.s_26 {l : Launch} {D : va_G} {cI cJ cO cD : ClassId} {z : zT} {R : kXS → kTS → kMS → Prop} {P : (Nat → Int64) → Prop} (H : lawOK l D cI cJ cO cD z R P) : ∀ {X : kXS} {Y : kTS} {M : kMS}, R X Y M → r_clear X = (a_clear M) := H.2.2.2.2.2.2.2.2.2.2.2.2.2.2.2.2.2.2.2.2.2.2.2.2.2.2.2.2.2.2.2.2.2.2.2.2.2.2.2.2.2.2.2.2.2.2.2.2.2.2.2.2.2.2.2.2.2.2.2.1
theorem lawOK.r_26 {l : Launch} {D : va_G} {cI cJ cO cD : ClassId} {z : zT} {R : kXS → kTS → kMS → Prop} {P : (Nat → Int64) → Prop} (H : lawOK l D cI cJ cO cD z R P) : ∀ {X : kXS} {Y : kTS} {M : kMS}, R X Y M → R (n_clear X) Y (q_clear M) := H.2.2.2.2.2.2.2.2.2.2.2.2.2.2.2.2.2.2.2.2.2.2.2.2.2.2.2.2.2.2.2.2.2.2.2.2.2.2.2.2.2.2.2.2.2.2.2.2.2.2.2.2.2.2.2.2.2.2.2.2.1
theorem lawOK.f_27_hf_t_6 {l : Launch} {D : va_G} {cI cJ cO cD : ClassId} {z : zT} {R : kXS → kTS → kMS → Prop} {P : (Nat → Int64) → Prop} (H : lawOK l D cI cJ cO cD z R P) : ∀ {X : kXS} {Y : kTS} {M : kMS}, R X Y M → kIn (M.1 6) 0 90 := H.2.2.2.2.2.2.2.2.2.2.2.2.2.2.2.2.2.2.2.2.2.2.2.2.2.2.2.2.2.2.2.2.2.2.2.2.2.2.2.2.2.2.2.2.2.2.2.2.2.2.2.2.2.2.2.2.2.2.2.2.2.1
theorem lawOK.s_27 {l : Launch} {D : va_G} {cI cJ cO cD : ClassId} {z : zT} {R : kXS → kTS → kMS → Prop} {P : (Nat → Int64) → Prop} (H : lawOK l D cI cJ cO cD z R P) : ∀ {X : kXS} {Y : kTS} {M : kMS}, R X Y M → r_errorPosition X = (a_errorPosition M) := H.2.2.2.2.2.2.2.2.2.2.2.2.2.2.2.2.2.2.2.2.2.2.2.2.2.2.2.2.2.2.2.2.2.2.2.2.2.2.2.2.2.2.2.2.2.2.2.2.2.2.2.2.2.2.2.2.2.2.2.2.2.2.1
theorem lawOK.r_27 {l : Launch} {D : va_G} {cI cJ cO cD : ClassId} {z : zT} {R : kXS → kTS → kMS → Prop} {P : (Nat → Int64) → Prop} (H : lawOK l D cI cJ cO cD z R P) : ∀ {X : kXS} {Y : kTS} {M : kMS}, R X Y M → R (n_errorPosition X) Y (q_errorPosition M) := H.2.2.2.2.2.2.2.2.2.2.2.2.2.2.2.2.2.2.2.2.2.2.2.2.2.2.2.2.2.2.2.2.2.2.2.2.2.2.2.2.2.2.2.2.2.2.2.2.2.2.2.2.2.2.2.2.2.2.2.2.2.2.2.1
theorem lawOK.s_28 {l : Launch} {D : va_G} {cI cJ cO cD : ClassId} {z : zT} {R : kXS → kTS → kMS → Prop} {P : (Nat → Int64) → Prop} (H : lawOK l D cI cJ cO cD z R P) : ∀ {X : kXS} {Y : kTS} {M : kMS} (b o : Nat) (u : Nat → Nat) (fo : Nat → Int64), R X Y M → lStep l D cI cJ cO z yL_load cL_load 3 [(0, 8, 11, 15), (0, 8, 14, 24)] [.ref b, .ref o] b o u X Y fo (a_load M) ((q_load M).1 7) (fun X2 Y2 => R X2 Y2 (q_load M)) := H.2.2.2.2.2.2.2.2.2.2.2.2.2.2.2.2.2.2.2.2.2.2.2.2.2.2.2.2.2.2.2.2.2.2.2.2.2.2.2.2.2.2.2.2.2.2.2.2.2.2.2.2.2.2.2.2.2.2.2.2.2.2.2.2.1
theorem lawOK.f_28_hf_t_5 {l : Launch} {D : va_G} {cI cJ cO cD : ClassId} {z : zT} {R : kXS → kTS → kMS → Prop} {P : (Nat → Int64) → Prop} (H : lawOK l D cI cJ cO cD z R P) : ∀ {X : kXS} {Y : kTS} {M : kMS}, R X Y M → kIn (M.1 5) 0 6 := H.2.2.2.2.2.2.2.2.2.2.2.2.2.2.2.2.2.2.2.2.2.2.2.2.2.2.2.2.2.2.2.2.2.2.2.2.2.2.2.2.2.2.2.2.2.2.2.2.2.2.2.2.2.2.2.2.2.2.2.2.2.2.2.2.2.1
theorem lawOK.f_28_hf_t_6 {l : Launch} {D : va_G} {cI cJ cO cD : ClassId} {z : zT} {R : kXS → kTS → kMS → Prop} {P : (Nat → Int64) → Prop} (H : lawOK l D cI cJ cO cD z R P) : ∀ {X : kXS} {Y : kTS} {M : kMS}, R X Y M → kIn (M.1 6) 0 90 := H.2.2.2.2.2.2.2.2.2.2.2.2.2.2.2.2.2.2.2.2.2.2.2.2.2.2.2.2.2.2.2.2.2.2.2.2.2.2.2.2.2.2.2.2.2.2.2.2.2.2.2.2.2.2.2.2.2.2.2.2.2.2.2.2.2.2
theorem k_head {n L : Nat} (hL : L ≤ 2560) (hn : n ≤ 2560) (h : ¬ nI L - 5 < nI n) : n + 5 ≤ L := by
  have a : kIn (nI L) L L := ⟨by rw [nI_toInt (by omega)]; omega, by rw [nI_toInt (by omega)]; omega⟩
  have b := kIn.sub a (y := 5) (c := 5) (d := 5) ⟨by decide, by decide⟩ (by omega) (by omega)
  have c := nI_toInt (n := n) (by omega)
  have e : ¬ (nI L - 5).toInt < (nI n).toInt := fun z => h (Int32.lt_iff_toInt_lt.mpr z)
  have b1 := b.1
  have b2 := b.2
  omega
set_option maxRecDepth 100000 in
set_option maxHeartbeats 8000000 in
theorem law_loop {p : Program} {l : Launch} {e : Env} {s : State} {m : MethodId} {args : Array Value} {below : List Frame} {meth : Method} {c : Code} {Q : State → Prop} {D : va_G} {A : Nat → Prop} {ret : Option FieldType} {cI cJ cO cD : ClassId} {z : zT} {sb L b o oD : Nat} {u v : Nat → Nat} {xs : Nat → Int32} (C4 : KC p s m args meth c cL_law 9 RL ret D (kT4 cI cJ cO cD) A) (hZ : kZ z A s s.heap) (hX : va_X sb L xs s s.heap) (hbl : sb < s.heap.size) (hbA : ¬ A sb) (hL : L ≤ 2560) {R : kXS → kTS → kMS → Prop} {P : (Nat → Int64) → Prop} (H : lawOK l D cI cJ cO cD z R P) (hend : ∀ (X : kXS) (Y : kTS) (M : kMS) (fo : Nat → Int64) (fd : Nat → UInt64) (n cells slots : Nat), cells ≤ room_1.cells → slots ≤ room_1.slots → KJ p l e room_1 s m args below meth c cells slots Q D A 9 (lawW cI cJ cO cD b o oD u v X Y M fo fd) [(5, .int (nI n)), (4, .ref oD), (3, .ref o), (2, .ref (v 0)), (1, .ref b), (0, .ref sb)] [.int 1] 1816) : ∀ (k n : Nat) (X : kXS) (Y : kTS) (M : kMS) (fo : Nat → Int64) (fd : Nat → UInt64) (cells slots : Nat), L - n < k → n ≤ L → R X Y M → cells ≤ 200 + 26 * n → slots ≤ 4000 + 331 * n → KJ p l e room_1 s m args below meth c cells slots Q D A 9 (lawW cI cJ cO cD b o oD u v X Y M fo fd) [(5, .int (nI n)), (4, .ref oD), (3, .ref o), (2, .ref (v 0)), (1, .ref b), (0, .ref sb)] [] 28 := by
  have C := KC.t4 C4
  have hr1 : room_1.cells = 601024 := rfl
  have hr2 : room_1.slots = 7293034 := rfl
  intro k
  induction k with
  | zero => intro n X Y M fo fd cells slots hk; exact absurd hk (Nat.not_lt_zero _)
  | succ k ih =>
    intro n X Y M fo fd cells slots hk hnL hR hcl hsl
    refine k_iload (pc := 28) C 0 rfl dL_law_28 ?_
    refine k_aload_n (pc := 30) C rfl 5 rfl dL_law_30 ?_
    refine k_slen (pc := 31) C hX hbl hbA dL_law_31 ?_
    refine k_iconst (pc := 32) C iconst_5 dL_law_32 ?_
    refine k_isub (pc := 33) C dL_law_33 ?_
    refine k_icmp_gt (pc := 34) (tgt := 1815) C dL_law_34 (by decide) (fun _ => ?_) (fun hle => ?_)
    · refine k_iconst (pc := 1815) C iconst_1 dL_law_1815 ?_
      exact hend X Y M fo fd n cells slots (by omega) (by omega)
    · have hn : n + 5 ≤ L := k_head hL (by omega) hle
      have hcc : cells + 26 ≤ room_1.cells := by omega
      have hss : slots + 331 ≤ room_1.slots := by omega
      have back : ∀ (X2 : kXS) (Y2 : kTS) (M2 : kMS) (fo2 : Nat → Int64) (fd2 : Nat → UInt64) (c2 s2 : Nat), R X2 Y2 M2 → c2 ≤ cells + 26 → s2 ≤ slots + 331 → KJ p l e room_1 s m args below meth c c2 s2 Q D A 9 (lawW cI cJ cO cD b o oD u v X2 Y2 M2 fo2 fd2) [(5, .int (nI n)), (4, .ref oD), (3, .ref o), (2, .ref (v 0)), (1, .ref b), (0, .ref sb)] [] 1809 := by
        intro X2 Y2 M2 fo2 fd2 c2 s2 hR2 h1 h2
        refine k_iinc (pc := 1809) (v := nI (n + 5)) (lv2 := [(5, .int (nI (n + 5))), (4, .ref oD), (3, .ref o), (2, .ref (v 0)), (1, .ref b), (0, .ref sb)]) C 0 rfl (by rw [show Int32.ofInt 5 = 5 from by decide]; exact nI_5 n) (by decide) rfl dL_law_1809 ?_
        refine k_goto (pc := 1812) (tgt := 28) C (by decide) dL_law_1812 ?_
        exact ih (n + 5) X2 Y2 M2 fo2 fd2 c2 s2 (by omega) (by omega) hR2 (by omega) (by omega)
      refine k_aload_n (pc := 37) C rfl 5 rfl dL_law_37 ?_
      refine k_iload (pc := 38) C 0 rfl dL_law_38 ?_
      refine k_sld (pc := 40) (k := n) C hX hbl hbA rfl (by omega) hL dL_law_40 ?_
      refine k_bipush (pc := 41) C bipush_31 dL_law_41 ?_
      refine k_iand (pc := 43) C dL_law_43 ?_
      by_cases c0 : xs n &&& 31 = 0
      · refine k_tsIn (pc := 44) (tgt := 176) C 0 c0 (by decide) (by decide) rfl (by decide) dL_law_44 ?_
        exact law_0 C4 hZ hX hbl hbA hL hn ⟨hcc, hss⟩ (H.s_0 b o u fo (xs (n + 1)) (xs (n + 2)) hR) (H.f_0_hf_t_5 hR) (fun X2 Y2 fo2 hR2 => back X2 Y2 _ fo2 fd _ _ hR2 (by omega) (by omega))
      by_cases c1 : xs n &&& 31 = 1
      · refine k_tsIn (pc := 44) (tgt := 244) C 1 c1 (by decide) (by decide) rfl (by decide) dL_law_44 ?_
        exact law_1 C4 hZ hX hbl hbA hL hn ⟨hcc, hss⟩ (H.s_1 b o u fo (xs (n + 1)) (xs (n + 2)) (xs (n + 3)) (xs (n + 4)) hR) (H.f_1_hf_t_5 hR) (fun X2 Y2 fo2 hR2 => back X2 Y2 _ fo2 fd _ _ hR2 (by omega) (by omega))
      by_cases c2 : xs n &&& 31 = 2
      · refine k_tsIn (pc := 44) (tgt := 336) C 2 c2 (by decide) (by decide) rfl (by decide) dL_law_44 ?_
        exact law_2 C4 hZ hX hbl hbA hL hn ⟨hcc, hss⟩ (H.s_2 b o u fo (xs (n + 1)) (xs (n + 2)) hR) (H.f_2_hf_t_5 hR) (fun X2 Y2 fo2 hR2 => back X2 Y2 _ fo2 fd _ _ hR2 (by omega) (by omega))
      by_cases c3 : xs n &&& 31 = 3
      · refine k_tsIn (pc := 44) (tgt := 404) C 3 c3 (by decide) (by decide) rfl (by decide) dL_law_44 ?_
        exact law_3 C4 hZ hX hbl hbA hL hn ⟨hcc, hss⟩ (H.s_3 b o u fo (xs (n + 1)) hR) (H.f_3_hf_t_5 hR) (H.f_3_hf_t_w_46 hR) (fun X2 Y2 fo2 hR2 => back X2 Y2 _ fo2 fd _ _ hR2 (by omega) (by omega))
      by_cases c4 : xs n &&& 31 = 4
      · refine k_tsIn (pc := 44) (tgt := 476) C 4 c4 (by decide) (by decide) rfl (by decide) dL_law_44 ?_
        exact law_4 C4 hZ hX hbl hbA hL hn ⟨hcc, hss⟩ (H.s_4 b o u fo (xs (n + 1)) hR) (H.f_4_hf_t_5 hR) P H.hPM H.hPs (H.f_4_hP0 hR) (fun X2 Y2 fo2 hR2 => back X2 Y2 _ fo2 fd _ _ hR2 (by omega) (by omega))
      by_cases c5 : xs n &&& 31 = 5
      · refine k_tsIn (pc := 44) (tgt := 532) C 5 c5 (by decide) (by decide) rfl (by decide) dL_law_44 ?_
        exact law_5 C4 hZ hX hbl hbA hL hn ⟨hcc, hss⟩ (H.s_5 b o u fo (xs (n + 1)) (xs (n + 2)) (xs (n + 3)) (xs (n + 4)) hR) (H.f_5_hf_t_5 hR) (H.f_5_hf_t_w_43 hR) (fun X2 Y2 fo2 hR2 => back X2 Y2 _ fo2 fd _ _ hR2 (by omega) (by omega))
      by_cases c6 : xs n &&& 31 = 6
      · refine k_tsIn (pc := 44) (tgt := 624) C 6 c6 (by decide) (by decide) rfl (by decide) dL_law_44 ?_
        exact law_6 C4 hZ hX hbl hbA hL hn ⟨hcc, hss⟩ (H.s_6 b o u fo (xs (n + 1)) hR) (H.f_6_hf_t_5 hR) (H.f_6_hf_t_w_43 hR) (fun X2 Y2 fo2 hR2 => back X2 Y2 _ fo2 fd _ _ hR2 (by omega) (by omega))
      by_cases c7 : xs n &&& 31 = 7
      · refine k_tsIn (pc := 44) (tgt := 680) C 7 c7 (by decide) (by decide) rfl (by decide) dL_law_44 ?_
        exact law_7 C4 hZ hX hbl hbA hL hn ⟨hcc, hss⟩ (H.s_7 b o u fo (xs (n + 1)) hR) (H.f_7_hf_t_5 hR) (fun X2 Y2 fo2 hR2 => back X2 Y2 _ fo2 fd _ _ hR2 (by omega) (by omega))
      by_cases c8 : xs n &&& 31 = 8
      · refine k_tsIn (pc := 44) (tgt := 736) C 8 c8 (by decide) (by decide) rfl (by decide) dL_law_44 ?_
        exact law_8 C4 hZ hX hbl hbA hL hn ⟨hcc, hss⟩ (H.s_8 b o u fo hR) (H.f_8_hf_t_5 hR) (H.f_8_hf_t_w_46 hR) (fun X2 Y2 fo2 hR2 => back X2 Y2 _ fo2 fd _ _ hR2 (by omega) (by omega))
      by_cases c9 : xs n &&& 31 = 9
      · refine k_tsIn (pc := 44) (tgt := 780) C 9 c9 (by decide) (by decide) rfl (by decide) dL_law_44 ?_
        exact law_9 C4 hZ hX hbl hbA hL hn ⟨hcc, hss⟩ (H.s_9 b o u fo hR) (H.f_9_hf_t_5 hR) (H.f_9_hf_t_w_46 hR) (fun X2 Y2 fo2 hR2 => back X2 Y2 _ fo2 fd _ _ hR2 (by omega) (by omega))
      by_cases c10 : xs n &&& 31 = 10
      · refine k_tsIn (pc := 44) (tgt := 824) C 10 c10 (by decide) (by decide) rfl (by decide) dL_law_44 ?_
        exact law_10 C4 hZ hX hbl hbA hL hn ⟨hcc, hss⟩ (H.s_10 b o u fo (xs (n + 1)) hR) (H.f_10_hf_t_5 hR) (fun X2 Y2 fo2 hR2 => back X2 Y2 _ fo2 fd _ _ hR2 (by omega) (by omega))
      by_cases c11 : xs n &&& 31 = 11
      · refine k_tsIn (pc := 44) (tgt := 896) C 11 c11 (by decide) (by decide) rfl (by decide) dL_law_44 ?_
        exact law_11 C4 hZ hX hbl hbA hL hn ⟨hcc, hss⟩ (H.s_11 b o u fo hR) (H.f_11_hf_t_5 hR) (fun X2 Y2 fo2 hR2 => back X2 Y2 _ fo2 fd _ _ hR2 (by omega) (by omega))
      by_cases c12 : xs n &&& 31 = 12
      · refine k_tsIn (pc := 44) (tgt := 940) C 12 c12 (by decide) (by decide) rfl (by decide) dL_law_44 ?_
        exact law_12 C4 hZ hX hbl hbA hL hn ⟨hcc, hss⟩ (H.s_12 b o u fo (xs (n + 1)) hR) (fun X2 Y2 fo2 hR2 => back X2 Y2 _ fo2 fd _ _ hR2 (by omega) (by omega))
      by_cases c13 : xs n &&& 31 = 13
      · refine k_tsIn (pc := 44) (tgt := 996) C 13 c13 (by decide) (by decide) rfl (by decide) dL_law_44 ?_
        exact law_13 C4 hZ hX hbl hbA hL hn ⟨hcc, hss⟩ (H.s_13 b o u fo (xs (n + 1)) hR) (fun X2 Y2 fo2 hR2 => back X2 Y2 _ fo2 fd _ _ hR2 (by omega) (by omega))
      by_cases c14 : xs n &&& 31 = 14
      · refine k_tsIn (pc := 44) (tgt := 1052) C 14 c14 (by decide) (by decide) rfl (by decide) dL_law_44 ?_
        exact law_14 C4 hZ hX hbl hbA hL hn ⟨hcc, hss⟩ (H.s_14 b o u fo (xs (n + 1)) (xs (n + 2)) hR) (H.f_14_hf_t_w_43 hR) (fun X2 Y2 fo2 hR2 => back X2 Y2 _ fo2 fd _ _ hR2 (by omega) (by omega))
      by_cases c15 : xs n &&& 31 = 15
      · refine k_tsIn (pc := 44) (tgt := 1120) C 15 c15 (by decide) (by decide) rfl (by decide) dL_law_44 ?_
        exact law_15 C4 hZ hX hbl hbA hL hn ⟨hcc, hss⟩ (H.s_15 b o u fo (xs (n + 1)) (xs (n + 2)) hR) (H.f_15_hf_t_w_45 hR) (fun X2 Y2 fo2 hR2 => back X2 Y2 _ fo2 fd _ _ hR2 (by omega) (by omega))
      by_cases c16 : xs n &&& 31 = 16
      · refine k_tsIn (pc := 44) (tgt := 1188) C 16 c16 (by decide) (by decide) rfl (by decide) dL_law_44 ?_
        exact law_16 C4 hZ hX hbl hbA hL hn ⟨hcc, hss⟩ (H.s_16 b o u fo (xs (n + 1)) (xs (n + 2)) hR) (H.f_16_hf_t_w_46 hR) (fun X2 Y2 fo2 hR2 => back X2 Y2 _ fo2 fd _ _ hR2 (by omega) (by omega))
      by_cases c17 : xs n &&& 31 = 17
      · refine k_tsIn (pc := 44) (tgt := 1256) C 17 c17 (by decide) (by decide) rfl (by decide) dL_law_44 ?_
        exact law_17 C4 hZ hX hbl hbA hL hn ⟨hcc, hss⟩ (H.s_17 hR) (back _ Y _ fo fd _ _ (H.r_17 hR) (by omega) (by omega))
      by_cases c18 : xs n &&& 31 = 18
      · refine k_tsIn (pc := 44) (tgt := 1270) C 18 c18 (by decide) (by decide) rfl (by decide) dL_law_44 ?_
        exact law_18 C4 hZ hX hbl hbA hL hn ⟨hcc, hss⟩ (H.s_18 b o u fo (xs (n + 1)) hR) (H.f_18_hf_t_w_48 hR) (fun X2 Y2 fo2 hR2 => back X2 Y2 _ fo2 fd _ _ hR2 (by omega) (by omega))
      by_cases c19 : xs n &&& 31 = 19
      · refine k_tsIn (pc := 44) (tgt := 1326) C 19 c19 (by decide) (by decide) rfl (by decide) dL_law_44 ?_
        exact law_19 C4 hZ hX hbl hbA hL hn ⟨hcc, hss⟩ (H.s_19 b o u fo (xs (n + 1)) hR) (H.f_19_hf_t_w_48 hR) (fun X2 Y2 fo2 hR2 => back X2 Y2 _ fo2 fd _ _ hR2 (by omega) (by omega))
      by_cases c20 : xs n &&& 31 = 20
      · refine k_tsIn (pc := 44) (tgt := 1382) C 20 c20 (by decide) (by decide) rfl (by decide) dL_law_44 ?_
        exact law_20 C4 hZ hX hbl hbA hL hn ⟨hcc, hss⟩ (H.s_20 b o oD u fo fd (xs (n + 1)) hR) (H.f_20_hf_t_w_48 hR) (fun fd2 => back X Y _ fo fd2 _ _ (H.r_20 (xs (n + 1)) hR) (by omega) (by omega))
      by_cases c21 : xs n &&& 31 = 21
      · refine k_tsIn (pc := 44) (tgt := 1459) C 21 c21 (by decide) (by decide) rfl (by decide) dL_law_44 ?_
        exact law_21 C4 hZ hX hbl hbA hL hn ⟨hcc, hss⟩ (H.s_21 b o u fo (xs (n + 1)) (xs (n + 2)) hR) P H.hPM H.hPs (H.f_21_hP0 hR) (fun X2 Y2 fo2 hR2 => back X2 Y2 _ fo2 fd _ _ hR2 (by omega) (by omega))
      by_cases c22 : xs n &&& 31 = 22
      · refine k_tsIn (pc := 44) (tgt := 1527) C 22 c22 (by decide) (by decide) rfl (by decide) dL_law_44 ?_
        exact law_22 C4 hZ hX hbl hbA hL hn ⟨hcc, hss⟩ (H.s_22 b o u fo hR) P H.hPM H.hPs (H.f_22_hP0 hR) (fun X2 Y2 fo2 hR2 => back X2 Y2 _ fo2 fd _ _ hR2 (by omega) (by omega))
      by_cases c23 : xs n &&& 31 = 23
      · refine k_tsIn (pc := 44) (tgt := 1571) C 23 c23 (by decide) (by decide) rfl (by decide) dL_law_44 ?_
        exact law_23 C4 hZ hX hbl hbA hL hn ⟨hcc, hss⟩ (H.s_23 b o u fo (xs (n + 1)) hR) P H.hPM H.hPs (H.f_23_hP0 (xs (n + 1)) hR) (fun X2 Y2 fo2 hR2 => back X2 Y2 _ fo2 fd _ _ hR2 (by omega) (by omega))
      by_cases c24 : xs n &&& 31 = 24
      · refine k_tsIn (pc := 44) (tgt := 1627) C 24 c24 (by decide) (by decide) rfl (by decide) dL_law_44 ?_
        exact law_24 C4 hZ hX hbl hbA hL hn ⟨hcc, hss⟩ (H.s_24 b o u fo (xs (n + 1)) hR) P H.hPM H.hPs (H.f_24_hPm hR) (fun X2 Y2 fo2 hR2 => back X2 Y2 _ fo2 fd _ _ hR2 (by omega) (by omega))
      by_cases c25 : xs n &&& 31 = 25
      · refine k_tsIn (pc := 44) (tgt := 1683) C 25 c25 (by decide) (by decide) rfl (by decide) dL_law_44 ?_
        exact law_25 C4 hZ hX hbl hbA hL hn ⟨hcc, hss⟩ (H.s_25 b o u fo (xs (n + 1)) hR) (H.f_25_hf_t_6 hR) (fun X2 Y2 fo2 hR2 => back X2 Y2 _ fo2 fd _ _ hR2 (by omega) (by omega))
      by_cases c26 : xs n &&& 31 = 26
      · refine k_tsIn (pc := 44) (tgt := 1739) C 26 c26 (by decide) (by decide) rfl (by decide) dL_law_44 ?_
        exact law_26 C4 hZ hX hbl hbA hL hn ⟨hcc, hss⟩ (H.s_26 hR) (back _ Y _ fo fd _ _ (H.r_26 hR) (by omega) (by omega))
      by_cases c27 : xs n &&& 31 = 27
      · refine k_tsIn (pc := 44) (tgt := 1752) C 27 c27 (by decide) (by decide) rfl (by decide) dL_law_44 ?_
        exact law_27 C4 hZ hX hbl hbA hL hn ⟨hcc, hss⟩ (H.f_27_hf_t_6 hR) (H.s_27 hR) (back _ Y _ fo fd _ _ (H.r_27 hR) (by omega) (by omega))
      by_cases c28 : xs n &&& 31 = 28
      · refine k_tsIn (pc := 44) (tgt := 1765) C 28 c28 (by decide) (by decide) rfl (by decide) dL_law_44 ?_
        exact law_28 C4 hZ hX hbl hbA hL hn ⟨hcc, hss⟩ (H.s_28 b o u fo hR) (H.f_28_hf_t_5 hR) (H.f_28_hf_t_6 hR) (fun X2 Y2 fo2 hR2 => back X2 Y2 _ fo2 fd _ _ hR2 (by omega) (by omega))
      refine k_tsOut (pc := 44) (tgt := 1809) C (by have z0 := k_ne (k := 0) c0 (by decide); have z1 := k_ne (k := 1) c1 (by decide); have z2 := k_ne (k := 2) c2 (by decide); have z3 := k_ne (k := 3) c3 (by decide); have z4 := k_ne (k := 4) c4 (by decide); have z5 := k_ne (k := 5) c5 (by decide); have z6 := k_ne (k := 6) c6 (by decide); have z7 := k_ne (k := 7) c7 (by decide); have z8 := k_ne (k := 8) c8 (by decide); have z9 := k_ne (k := 9) c9 (by decide); have z10 := k_ne (k := 10) c10 (by decide); have z11 := k_ne (k := 11) c11 (by decide); have z12 := k_ne (k := 12) c12 (by decide); have z13 := k_ne (k := 13) c13 (by decide); have z14 := k_ne (k := 14) c14 (by decide); have z15 := k_ne (k := 15) c15 (by decide); have z16 := k_ne (k := 16) c16 (by decide); have z17 := k_ne (k := 17) c17 (by decide); have z18 := k_ne (k := 18) c18 (by decide); have z19 := k_ne (k := 19) c19 (by decide); have z20 := k_ne (k := 20) c20 (by decide); have z21 := k_ne (k := 21) c21 (by decide); have z22 := k_ne (k := 22) c22 (by decide); have z23 := k_ne (k := 23) c23 (by decide); have z24 := k_ne (k := 24) c24 (by decide); have z25 := k_ne (k := 25) c25 (by decide); have z26 := k_ne (k := 26) c26 (by decide); have z27 := k_ne (k := 27) c27 (by decide); have z28 := k_ne (k := 28) c28 (by decide); omega) (by decide) dL_law_44 ?_
      exact back X Y M fo fd _ _ hR (by omega) (by omega)