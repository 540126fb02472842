section
variable {l : Launch} {D : va_G} {h a : Nat} {ad : Nat → Nat} {cA : ClassId} {tz : List (ClassId × FieldType)} {G : Nat → Int32} {S : Nat → Nat → Int32} {n : Nat}
/-- go, its picture -/
def sp_go (S : Nat → Nat → Int32) (i : Nat) (d : Int32) : Nat → Nat → Int32 := up2 (up2 S i 9 d) i 10 0
set_option maxHeartbeats 4000000 in
set_option maxRecDepth 100000 in
theorem c_S_go {i : Nat} {d : Int32} (hi : i < 32) : MV l D ((cA, .object RX0) :: tz) yX0_go wsX0_go { frames := 0, cells := 0, slots := 0, locals := 0 } [.ref (ad i), .int d] (hw_W h a ad cA G S) (hw_W h a ad cA G (sp_go S i d)) := by
  refine MV.start (cc := cX0_go) (maxL := 2) (by decide) rfl (Nat.le_of_ble_eq_true rfl) (fun p e s m args below meth c A ls C T hl => ?_)
  have hx := C.1.1
  have hb := C.1.2.1
  have hml := C.1.2.2.1
  have hown : s.vm.findClass RX0 = some m.cls := C.1.2.2.2.1
  have hts := C.1.2.2.2.2
  have hK := C.2.2.2.1
  have hinS : ∀ w ∈ wsX00, w ∈ wsX0_go := by decide +kernel
  have hl : lv_has ls 2 [(0, .ref (ad i)), (1, .int d)] := hl
  refine lv_aload_n hx hb dX0_go_0 rfl (lv_at hl 0 rfl) ?_
  refine lv_iload_n hx hb dX0_go_1 rfl (lv_at hl 1 rfl) ?_
  refine va_put (D := D) (ci := 0) (v := .int d) (ty := .int) (C := RX0) (T := TX0) (N := 13) hx hb hts hinS tyX0 tyX0_ok nmX0 hown hK T.1 T.2.1 T.2.2 (i + 2) (hw_at hi) rfl 9 (by decide) (hts (.fieldLink RX0 45 "MoverHall$Sector" "way" "I") (by decide +kernel)) (fun _ h9 => h9) rfl (by decide +kernel) rfl rfl (Nat.le_of_ble_eq_true rfl) dX0_go_2 (fun H locs hP hD hS => ?_)
  have T := hw_setS (k := 9) (v := d) hi rfl ⟨hP, hD, hS⟩
  refine lv_aload_n hx hb dX0_go_5 rfl (lv_at hl 0 rfl) ?_
  refine lv_iconst (v := 0) hx hb dX0_go_6 (by decide) ?_
  refine va_put (D := D) (ci := 0) (v := .int 0) (ty := .int) (C := RX0) (T := TX0) (N := 13) hx hb hts hinS tyX0 tyX0_ok nmX0 hown hK T.1 T.2.1 T.2.2 (i + 2) (hw_at hi) rfl 10 (by decide) (hts (.fieldLink RX0 48 "MoverHall$Sector" "waitLeft" "I") (by decide +kernel)) (fun _ h9 => h9) rfl (by decide +kernel) rfl rfl (Nat.le_of_ble_eq_true rfl) dX0_go_7 (fun H locs hP hD hS => ?_)
  have T := hw_setS (k := 10) (v := 0) hi rfl ⟨hP, hD, hS⟩
  have e9 : sp_go S i d = up2 (up2 S i 9 d) i 10 0 := by rfl
  exact hw_vret C T (by rw [e9]) dX0_go_10
/-- waitFor, its picture -/
def sp_waitFor (S : Nat → Nat → Int32) (i : Nat) (d : Int32) : Nat → Nat → Int32 := up2 (up2 S i 9 0) i 10 d
set_option maxHeartbeats 4000000 in
set_option maxRecDepth 100000 in
theorem c_S_waitFor {i : Nat} {d : Int32} (hi : i < 32) : MV l D ((cA, .object RX0) :: tz) yX0_waitFor wsX0_waitFor { frames := 0, cells := 0, slots := 0, locals := 0 } [.ref (ad i), .int d] (hw_W h a ad cA G S) (hw_W h a ad cA G (sp_waitFor S i d)) := by
  refine MV.start (cc := cX0_waitFor) (maxL := 2) (by decide) rfl (Nat.le_of_ble_eq_true rfl) (fun p e s m args below meth c A ls C T hl => ?_)
  have hx := C.1.1
  have hb := C.1.2.1
  have hml := C.1.2.2.1
  have hown : s.vm.findClass RX0 = some m.cls := C.1.2.2.2.1
  have hts := C.1.2.2.2.2
  have hK := C.2.2.2.1
  have hinS : ∀ w ∈ wsX00, w ∈ wsX0_waitFor := by decide +kernel
  have hl : lv_has ls 2 [(0, .ref (ad i)), (1, .int d)] := hl
  refine lv_aload_n hx hb dX0_waitFor_0 rfl (lv_at hl 0 rfl) ?_
  refine lv_iconst (v := 0) hx hb dX0_waitFor_1 (by decide) ?_
  refine va_put (D := D) (ci := 0) (v := .int 0) (ty := .int) (C := RX0) (T := TX0) (N := 13) hx hb hts hinS tyX0 tyX0_ok nmX0 hown hK T.1 T.2.1 T.2.2 (i + 2) (hw_at hi) rfl 9 (by decide) (hts (.fieldLink RX0 45 "MoverHall$Sector" "way" "I") (by decide +kernel)) (fun _ h9 => h9) rfl (by decide +kernel) rfl rfl (Nat.le_of_ble_eq_true rfl) dX0_waitFor_2 (fun H locs hP hD hS => ?_)
  have T := hw_setS (k := 9) (v := 0) hi rfl ⟨hP, hD, hS⟩
  refine lv_aload_n hx hb dX0_waitFor_5 rfl (lv_at hl 0 rfl) ?_
  refine lv_iload_n hx hb dX0_waitFor_6 rfl (lv_at hl 1 rfl) ?_
  refine va_put (D := D) (ci := 0) (v := .int d) (ty := .int) (C := RX0) (T := TX0) (N := 13) hx hb hts hinS tyX0 tyX0_ok nmX0 hown hK T.1 T.2.1 T.2.2 (i + 2) (hw_at hi) rfl 10 (by decide) (hts (.fieldLink RX0 48 "MoverHall$Sector" "waitLeft" "I") (by decide +kernel)) (fun _ h9 => h9) rfl (by decide +kernel) rfl rfl (Nat.le_of_ble_eq_true rfl) dX0_waitFor_7 (fun H locs hP hD hS => ?_)
  have T := hw_setS (k := 10) (v := d) hi rfl ⟨hP, hD, hS⟩
  have e9 : sp_waitFor S i d = up2 (up2 S i 9 0) i 10 d := by rfl
  exact hw_vret C T (by rw [e9]) dX0_waitFor_10
/-- waitOneTick, its picture -/
def sp_waitOneTick (S : Nat → Nat → Int32) (i : Nat) : Nat → Nat → Int32 := if ((up2 S i 10 ((S i 10) - 1)) i 10) = 0 then (if ((up2 S i 10 ((S i 10) - 1)) i 8) = 0 then (up2 (up2 S i 10 ((S i 10) - 1)) i 9 (-1)) else (up2 (up2 S i 10 ((S i 10) - 1)) i 9 1)) else (up2 S i 10 ((S i 10) - 1))
set_option maxHeartbeats 4000000 in
set_option maxRecDepth 100000 in
theorem c_S_waitOneTick {i : Nat} (hi : i < 32) : MV l D ((cA, .object RX0) :: tz) yX0_waitOneTick wsX0_waitOneTick { frames := 0, cells := 0, slots := 0, locals := 0 } [.ref (ad i)] (hw_W h a ad cA G S) (hw_W h a ad cA G (sp_waitOneTick S i)) := by
  refine MV.start (cc := cX0_waitOneTick) (maxL := 1) (by decide) rfl (Nat.le_of_ble_eq_true rfl) (fun p e s m args below meth c A ls C T hl => ?_)
  have hx := C.1.1
  have hb := C.1.2.1
  have hml := C.1.2.2.1
  have hown : s.vm.findClass RX0 = some m.cls := C.1.2.2.2.1
  have hts := C.1.2.2.2.2
  have hK := C.2.2.2.1
  have hinS : ∀ w ∈ wsX00, w ∈ wsX0_waitOneTick := by decide +kernel
  have hl : lv_has ls 1 [(0, .ref (ad i))] := hl
  refine lv_aload_n hx hb dX0_waitOneTick_0 rfl (lv_at hl 0 rfl) ?_
  refine lv_dup hx hb dX0_waitOneTick_1 rfl ?_
  refine va_get (D := D) (ci := 0) (v := .int (S i 10)) (C := RX0) (T := TX0) (N := 13) hx hb hts hinS hown hK T.1 (i + 2) (hw_at hi) rfl 10 (by decide) (hts (.fieldLink RX0 48 "MoverHall$Sector" "waitLeft" "I") (by decide +kernel)) (fun _ h9 => h9) rfl dX0_waitOneTick_2 ?_
  refine lv_iconst (v := 1) hx hb dX0_waitOneTick_5 (by decide) ?_
  refine lv_isub hx hb dX0_waitOneTick_6 ?_
  refine va_put (D := D) (ci := 0) (v := .int ((S i 10) - 1)) (ty := .int) (C := RX0) (T := TX0) (N := 13) hx hb hts hinS tyX0 tyX0_ok nmX0 hown hK T.1 T.2.1 T.2.2 (i + 2) (hw_at hi) rfl 10 (by decide) (hts (.fieldLink RX0 48 "MoverHall$Sector" "waitLeft" "I") (by decide +kernel)) (fun _ h9 => h9) rfl (by decide +kernel) rfl rfl (Nat.le_of_ble_eq_true rfl) dX0_waitOneTick_7 (fun H locs hP hD hS => ?_)
  have T := hw_setS (k := 10) (v := (S i 10) - 1) hi rfl ⟨hP, hD, hS⟩
  refine lv_aload_n hx hb dX0_waitOneTick_10 rfl (lv_at hl 0 rfl) ?_
  refine va_get (D := D) (ci := 0) (v := .int ((up2 S i 10 ((S i 10) - 1)) i 10)) (C := RX0) (T := TX0) (N := 13) hx hb hts hinS hown hK T.1 (i + 2) (hw_at hi) rfl 10 (by decide) (hts (.fieldLink RX0 48 "MoverHall$Sector" "waitLeft" "I") (by decide +kernel)) (fun _ h9 => h9) rfl dX0_waitOneTick_11 ?_
  refine lv_if_ne (tgt := 33) hx hb dX0_waitOneTick_14 (by decide) (fun c_14 => ?_) (fun c_14 => ?_)
  · skip
    have e9 : sp_waitOneTick S i = up2 S i 10 ((S i 10) - 1) := by unfold sp_waitOneTick; simp only [if_neg c_14]
    exact hw_vret C T (by rw [e9]) dX0_waitOneTick_33
  · skip
    refine lv_aload_n hx hb dX0_waitOneTick_17 rfl (lv_at hl 0 rfl) ?_
    refine lv_aload_n hx hb dX0_waitOneTick_18 rfl (lv_at hl 0 rfl) ?_
    refine va_get (D := D) (ci := 0) (v := .int ((up2 S i 10 ((S i 10) - 1)) i 8)) (C := RX0) (T := TX0) (N := 13) hx hb hts hinS hown hK T.1 (i + 2) (hw_at hi) rfl 8 (by decide) (hts (.fieldLink RX0 39 "MoverHall$Sector" "mover" "I") (by decide +kernel)) (fun _ h9 => h9) rfl dX0_waitOneTick_19 ?_
    refine lv_if_ne (tgt := 29) hx hb dX0_waitOneTick_22 (by decide) (fun c_22 => ?_) (fun c_22 => ?_)
    · skip
      refine lv_iconst (v := 1) hx hb dX0_waitOneTick_29 (by decide) ?_
      refine va_put (D := D) (ci := 0) (v := .int 1) (ty := .int) (C := RX0) (T := TX0) (N := 13) hx hb hts hinS tyX0 tyX0_ok nmX0 hown hK T.1 T.2.1 T.2.2 (i + 2) (hw_at hi) rfl 9 (by decide) (hts (.fieldLink RX0 45 "MoverHall$Sector" "way" "I") (by decide +kernel)) (fun _ h9 => h9) rfl (by decide +kernel) rfl rfl (Nat.le_of_ble_eq_true rfl) dX0_waitOneTick_30 (fun H locs hP hD hS => ?_)
      have T := hw_setS (k := 9) (v := 1) hi rfl ⟨hP, hD, hS⟩
      have e9 : sp_waitOneTick S i = up2 (up2 S i 10 ((S i 10) - 1)) i 9 1 := by unfold sp_waitOneTick; simp only [if_pos c_14, if_neg c_22]
      exact hw_vret C T (by rw [e9]) dX0_waitOneTick_33
    · skip
      refine lv_iconst (v := (-1)) hx hb dX0_waitOneTick_25 (by decide) ?_
      refine lv_goto (tgt := 30) hx hb dX0_waitOneTick_26 (by decide) ?_
      refine va_put (D := D) (ci := 0) (v := .int (-1)) (ty := .int) (C := RX0) (T := TX0) (N := 13) hx hb hts hinS tyX0 tyX0_ok nmX0 hown hK T.1 T.2.1 T.2.2 (i + 2) (hw_at hi) rfl 9 (by decide) (hts (.fieldLink RX0 45 "MoverHall$Sector" "way" "I") (by decide +kernel)) (fun _ h9 => h9) rfl (by decide +kernel) rfl rfl (Nat.le_of_ble_eq_true rfl) dX0_waitOneTick_30 (fun H locs hP hD hS => ?_)
      have T := hw_setS (k := 9) (v := (-1)) hi rfl ⟨hP, hD, hS⟩
      have e9 : sp_waitOneTick S i = up2 (up2 S i 10 ((S i 10) - 1)) i 9 (-1) := by unfold sp_waitOneTick; simp only [if_pos c_14, if_pos c_22]
      exact hw_vret C T (by rw [e9]) dX0_waitOneTick_33
/-- dropMover, its picture -/
def sp_dropMover (S : Nat → Nat → Int32) (i : Nat) : Nat → Nat → Int32 := up2 (up2 (up2 (up2 S i 8 (-1)) i 11 (-1)) i 9 0) i 10 0
set_option maxHeartbeats 4000000 in
set_option maxRecDepth 100000 in
theorem c_S_dropMover {i : Nat} (hi : i < 32) : MV l D ((cA, .object RX0) :: tz) yX0_dropMover wsX0_dropMover { frames := 0, cells := 0, slots := 0, locals := 0 } [.ref (ad i)] (hw_W h a ad cA G S) (hw_W h a ad cA G (sp_dropMover S i)) := by
  refine MV.start (cc := cX0_dropMover) (maxL := 1) (by decide) rfl (Nat.le_of_ble_eq_true rfl) (fun p e s m args below meth c A ls C T hl => ?_)
  have hx := C.1.1
  have hb := C.1.2.1
  have hml := C.1.2.2.1
  have hown : s.vm.findClass RX0 = some m.cls := C.1.2.2.2.1
  have hts := C.1.2.2.2.2
  have hK := C.2.2.2.1
  have hinS : ∀ w ∈ wsX00, w ∈ wsX0_dropMover := by decide +kernel
  have hl : lv_has ls 1 [(0, .ref (ad i))] := hl
  refine lv_aload_n hx hb dX0_dropMover_0 rfl (lv_at hl 0 rfl) ?_
  refine lv_iconst (v := (-1)) hx hb dX0_dropMover_1 (by decide) ?_
  refine va_put (D := D) (ci := 0) (v := .int (-1)) (ty := .int) (C := RX0) (T := TX0) (N := 13) hx hb hts hinS tyX0 tyX0_ok nmX0 hown hK T.1 T.2.1 T.2.2 (i + 2) (hw_at hi) rfl 8 (by decide) (hts (.fieldLink RX0 39 "MoverHall$Sector" "mover" "I") (by decide +kernel)) (fun _ h9 => h9) rfl (by decide +kernel) rfl rfl (Nat.le_of_ble_eq_true rfl) dX0_dropMover_2 (fun H locs hP hD hS => ?_)
  have T := hw_setS (k := 8) (v := (-1)) hi rfl ⟨hP, hD, hS⟩
  refine lv_aload_n hx hb dX0_dropMover_5 rfl (lv_at hl 0 rfl) ?_
  refine lv_iconst (v := (-1)) hx hb dX0_dropMover_6 (by decide) ?_
  refine va_put (D := D) (ci := 0) (v := .int (-1)) (ty := .int) (C := RX0) (T := TX0) (N := 13) hx hb hts hinS tyX0 tyX0_ok nmX0 hown hK T.1 T.2.1 T.2.2 (i + 2) (hw_at hi) rfl 11 (by decide) (hts (.fieldLink RX0 42 "MoverHall$Sector" "wayEnd" "I") (by decide +kernel)) (fun _ h9 => h9) rfl (by decide +kernel) rfl rfl (Nat.le_of_ble_eq_true rfl) dX0_dropMover_7 (fun H locs hP hD hS => ?_)
  have T := hw_setS (k := 11) (v := (-1)) hi rfl ⟨hP, hD, hS⟩
  refine lv_aload_n hx hb dX0_dropMover_10 rfl (lv_at hl 0 rfl) ?_
  refine lv_iconst (v := 0) hx hb dX0_dropMover_11 (by decide) ?_
  refine va_put (D := D) (ci := 0) (v := .int 0) (ty := .int) (C := RX0) (T := TX0) (N := 13) hx hb hts hinS tyX0 tyX0_ok nmX0 hown hK T.1 T.2.1 T.2.2 (i + 2) (hw_at hi) rfl 9 (by decide) (hts (.fieldLink RX0 45 "MoverHall$Sector" "way" "I") (by decide +kernel)) (fun _ h9 => h9) rfl (by decide +kernel) rfl rfl (Nat.le_of_ble_eq_true rfl) dX0_dropMover_12 (fun H locs hP hD hS => ?_)
  have T := hw_setS (k := 9) (v := 0) hi rfl ⟨hP, hD, hS⟩
  refine lv_aload_n hx hb dX0_dropMover_15 rfl (lv_at hl 0 rfl) ?_
  refine lv_iconst (v := 0) hx hb dX0_dropMover_16 (by decide) ?_
  refine va_put (D := D) (ci := 0) (v := .int 0) (ty := .int) (C := RX0) (T := TX0) (N := 13) hx hb hts hinS tyX0 tyX0_ok nmX0 hown hK T.1 T.2.1 T.2.2 (i + 2) (hw_at hi) rfl 10 (by decide) (hts (.fieldLink RX0 48 "MoverHall$Sector" "waitLeft" "I") (by decide +kernel)) (fun _ h9 => h9) rfl (by decide +kernel) rfl rfl (Nat.le_of_ble_eq_true rfl) dX0_dropMover_17 (fun H locs hP hD hS => ?_)
  have T := hw_setS (k := 10) (v := 0) hi rfl ⟨hP, hD, hS⟩
  have e9 : sp_dropMover S i = up2 (up2 (up2 (up2 S i 8 (-1)) i 11 (-1)) i 9 0) i 10 0 := by rfl
  exact hw_vret C T (by rw [e9]) dX0_dropMover_20
/-- goBackToPlan, its picture -/
def sp_goBackToPlan (S : Nat → Nat → Int32) (i : Nat) : Nat → Nat → Int32 := sp_dropMover (up2 (up2 S i 6 (S i 0)) i 7 ((up2 S i 6 (S i 0)) i 1)) i
set_option maxHeartbeats 4000000 in
set_option maxRecDepth 100000 in
theorem c_S_goBackToPlan {i : Nat} (hi : i < 32) : MV l D ((cA, .object RX0) :: tz) yX0_goBackToPlan wsX0_goBackToPlan { frames := 1, cells := 0, slots := 0, locals := 20 } [.ref (ad i)] (hw_W h a ad cA G S) (hw_W h a ad cA G (sp_goBackToPlan S i)) := by
  refine MV.start (cc := cX0_goBackToPlan) (maxL := 1) (by decide) rfl (Nat.le_of_ble_eq_true rfl) (fun p e s m args below meth c A ls C T hl => ?_)
  have hx := C.1.1
  have hb := C.1.2.1
  have hml := C.1.2.2.1
  have hown : s.vm.findClass RX0 = some m.cls := C.1.2.2.2.1
  have hts := C.1.2.2.2.2
  have hK := C.2.2.2.1
  have hinS : ∀ w ∈ wsX00, w ∈ wsX0_goBackToPlan := by decide +kernel
  have hl : lv_has ls 1 [(0, .ref (ad i))] := hl
  refine lv_aload_n hx hb dX0_goBackToPlan_0 rfl (lv_at hl 0 rfl) ?_
  refine lv_aload_n hx hb dX0_goBackToPlan_1 rfl (lv_at hl 0 rfl) ?_
  refine va_get (D := D) (ci := 0) (v := .int (S i 0)) (C := RX0) (T := TX0) (N := 13) hx hb hts hinS hown hK T.1 (i + 2) (hw_at hi) rfl 0 (by decide) (hts (.fieldLink RX0 9 "MoverHall$Sector" "plannedFloor" "I") (by decide +kernel)) (fun _ h9 => h9) rfl dX0_goBackToPlan_2 ?_
  refine va_put (D := D) (ci := 0) (v := .int (S i 0)) (ty := .int) (C := RX0) (T := TX0) (N := 13) hx hb hts hinS tyX0 tyX0_ok nmX0 hown hK T.1 T.2.1 T.2.2 (i + 2) (hw_at hi) rfl 6 (by decide) (hts (.fieldLink RX0 30 "MoverHall$Sector" "floor" "I") (by decide +kernel)) (fun _ h9 => h9) rfl (by decide +kernel) rfl rfl (Nat.le_of_ble_eq_true rfl) dX0_goBackToPlan_5 (fun H locs hP hD hS => ?_)
  have T := hw_setS (k := 6) (v := S i 0) hi rfl ⟨hP, hD, hS⟩
  refine lv_aload_n hx hb dX0_goBackToPlan_8 rfl (lv_at hl 0 rfl) ?_
  refine lv_aload_n hx hb dX0_goBackToPlan_9 rfl (lv_at hl 0 rfl) ?_
  refine va_get (D := D) (ci := 0) (v := .int ((up2 S i 6 (S i 0)) i 1)) (C := RX0) (T := TX0) (N := 13) hx hb hts hinS hown hK T.1 (i + 2) (hw_at hi) rfl 1 (by decide) (hts (.fieldLink RX0 15 "MoverHall$Sector" "plannedCeiling" "I") (by decide +kernel)) (fun _ h9 => h9) rfl dX0_goBackToPlan_10 ?_
  refine va_put (D := D) (ci := 0) (v := .int ((up2 S i 6 (S i 0)) i 1)) (ty := .int) (C := RX0) (T := TX0) (N := 13) hx hb hts hinS tyX0 tyX0_ok nmX0 hown hK T.1 T.2.1 T.2.2 (i + 2) (hw_at hi) rfl 7 (by decide) (hts (.fieldLink RX0 33 "MoverHall$Sector" "ceiling" "I") (by decide +kernel)) (fun _ h9 => h9) rfl (by decide +kernel) rfl rfl (Nat.le_of_ble_eq_true rfl) dX0_goBackToPlan_13 (fun H locs hP hD hS => ?_)
  have T := hw_setS (k := 7) (v := (up2 S i 6 (S i 0)) i 1) hi rfl ⟨hP, hD, hS⟩
  refine lv_aload_n hx hb dX0_goBackToPlan_16 rfl (lv_at hl 0 rfl) ?_
  refine hw_Vv (As := []) (rest := []) C T (c_S_dropMover hi) (cwV 0 hts gX0_goBackToPlan_X0_dropMover rfl rfl rfl (by decide +kernel) ⟨Nat.le_of_ble_eq_true rfl, Nat.le_of_ble_eq_true rfl⟩) (hw_isS hi) hw_ad rfl hl.1 rfl (Nat.le_of_ble_eq_true rfl) dX0_goBackToPlan_17 ⟨Nat.zero_le _, Nat.zero_le _⟩ (fun H locs T => ?_)
  have e9 : sp_goBackToPlan S i = sp_dropMover (up2 (up2 S i 6 (S i 0)) i 7 ((up2 S i 6 (S i 0)) i 1)) i := by rfl
  exact hw_vret C T (by rw [e9]) dX0_goBackToPlan_20
/-- plan, its picture -/
def sp_plan (S : Nat → Nat → Int32) (i : Nat) (x1 : Int32) (x2 : Int32) (x3 : Int32) (x4 : Int32) (x5 : Int32) : Nat → Nat → Int32 := up2 (up2 (up2 (up2 (up2 (up2 S i 0 x1) i 1 x2) i 2 x3) i 3 x4) i 4 x5) i 5 0
set_option maxHeartbeats 4000000 in
set_option maxRecDepth 100000 in
theorem c_S_plan {i : Nat} {x1 : Int32} {x2 : Int32} {x3 : Int32} {x4 : Int32} {x5 : Int32} (hi : i < 32) : MV l D ((cA, .object RX0) :: tz) yX0_plan wsX0_plan { frames := 0, cells := 0, slots := 0, locals := 0 } [.ref (ad i), .int x1, .int x2, .int x3, .int x4, .int x5] (hw_W h a ad cA G S) (hw_W h a ad cA G (sp_plan S i x1 x2 x3 x4 x5)) := by
  refine MV.start (cc := cX0_plan) (maxL := 6) (by decide) rfl (Nat.le_of_ble_eq_true rfl) (fun p e s m args below meth c A ls C T hl => ?_)
  have hx := C.1.1
  have hb := C.1.2.1
  have hml := C.1.2.2.1
  have hown : s.vm.findClass RX0 = some m.cls := C.1.2.2.2.1
  have hts := C.1.2.2.2.2
  have hK := C.2.2.2.1
  have hinS : ∀ w ∈ wsX00, w ∈ wsX0_plan := by decide +kernel
  have hl : lv_has ls 6 [(0, .ref (ad i)), (1, .int x1), (2, .int x2), (3, .int x3), (4, .int x4), (5, .int x5)] := hl
  refine lv_aload_n hx hb dX0_plan_0 rfl (lv_at hl 0 rfl) ?_
  refine lv_iload_n hx hb dX0_plan_1 rfl (lv_at hl 1 rfl) ?_
  refine va_put (D := D) (ci := 0) (v := .int x1) (ty := .int) (C := RX0) (T := TX0) (N := 13) hx hb hts hinS tyX0 tyX0_ok nmX0 hown hK T.1 T.2.1 T.2.2 (i + 2) (hw_at hi) rfl 0 (by decide) (hts (.fieldLink RX0 9 "MoverHall$Sector" "plannedFloor" "I") (by decide +kernel)) (fun _ h9 => h9) rfl (by decide +kernel) rfl rfl (Nat.le_of_ble_eq_true rfl) dX0_plan_2 (fun H locs hP hD hS => ?_)
  have T := hw_setS (k := 0) (v := x1) hi rfl ⟨hP, hD, hS⟩
  refine lv_aload_n hx hb dX0_plan_5 rfl (lv_at hl 0 rfl) ?_
  refine lv_iload_n hx hb dX0_plan_6 rfl (lv_at hl 2 rfl) ?_
  refine va_put (D := D) (ci := 0) (v := .int x2) (ty := .int) (C := RX0) (T := TX0) (N := 13) hx hb hts hinS tyX0 tyX0_ok nmX0 hown hK T.1 T.2.1 T.2.2 (i + 2) (hw_at hi) rfl 1 (by decide) (hts (.fieldLink RX0 15 "MoverHall$Sector" "plannedCeiling" "I") (by decide +kernel)) (fun _ h9 => h9) rfl (by decide +kernel) rfl rfl (Nat.le_of_ble_eq_true rfl) dX0_plan_7 (fun H locs hP hD hS => ?_)
  have T := hw_setS (k := 1) (v := x2) hi rfl ⟨hP, hD, hS⟩
  refine lv_aload_n hx hb dX0_plan_10 rfl (lv_at hl 0 rfl) ?_
  refine lv_iload_n hx hb dX0_plan_11 rfl (lv_at hl 3 rfl) ?_
  refine va_put (D := D) (ci := 0) (v := .int x3) (ty := .int) (C := RX0) (T := TX0) (N := 13) hx hb hts hinS tyX0 tyX0_ok nmX0 hown hK T.1 T.2.1 T.2.2 (i + 2) (hw_at hi) rfl 2 (by decide) (hts (.fieldLink RX0 18 "MoverHall$Sector" "light" "I") (by decide +kernel)) (fun _ h9 => h9) rfl (by decide +kernel) rfl rfl (Nat.le_of_ble_eq_true rfl) dX0_plan_12 (fun H locs hP hD hS => ?_)
  have T := hw_setS (k := 2) (v := x3) hi rfl ⟨hP, hD, hS⟩
  refine lv_aload_n hx hb dX0_plan_15 rfl (lv_at hl 0 rfl) ?_
  refine lv_iload hx hb dX0_plan_16 (lv_at hl 4 rfl) ?_
  refine va_put (D := D) (ci := 0) (v := .int x4) (ty := .int) (C := RX0) (T := TX0) (N := 13) hx hb hts hinS tyX0 tyX0_ok nmX0 hown hK T.1 T.2.1 T.2.2 (i + 2) (hw_at hi) rfl 3 (by decide) (hts (.fieldLink RX0 21 "MoverHall$Sector" "kind" "I") (by decide +kernel)) (fun _ h9 => h9) rfl (by decide +kernel) rfl rfl (Nat.le_of_ble_eq_true rfl) dX0_plan_18 (fun H locs hP hD hS => ?_)
  have T := hw_setS (k := 3) (v := x4) hi rfl ⟨hP, hD, hS⟩
  refine lv_aload_n hx hb dX0_plan_21 rfl (lv_at hl 0 rfl) ?_
  refine lv_iload hx hb dX0_plan_22 (lv_at hl 5 rfl) ?_
  refine va_put (D := D) (ci := 0) (v := .int x5) (ty := .int) (C := RX0) (T := TX0) (N := 13) hx hb hts hinS tyX0 tyX0_ok nmX0 hown hK T.1 T.2.1 T.2.2 (i + 2) (hw_at hi) rfl 4 (by decide) (hts (.fieldLink RX0 24 "MoverHall$Sector" "tag" "I") (by decide +kernel)) (fun _ h9 => h9) rfl (by decide +kernel) rfl rfl (Nat.le_of_ble_eq_true rfl) dX0_plan_24 (fun H locs hP hD hS => ?_)
  have T := hw_setS (k := 4) (v := x5) hi rfl ⟨hP, hD, hS⟩
  refine lv_aload_n hx hb dX0_plan_27 rfl (lv_at hl 0 rfl) ?_
  refine lv_iconst (v := 0) hx hb dX0_plan_28 (by decide) ?_
  refine va_put (D := D) (ci := 0) (v := .int 0) (ty := .int) (C := RX0) (T := TX0) (N := 13) hx hb hts hinS tyX0 tyX0_ok nmX0 hown hK T.1 T.2.1 T.2.2 (i + 2) (hw_at hi) rfl 5 (by decide) (hts (.fieldLink RX0 27 "MoverHall$Sector" "neighbours" "I") (by decide +kernel)) (fun _ h9 => h9) rfl (by decide +kernel) rfl rfl (Nat.le_of_ble_eq_true rfl) dX0_plan_29 (fun H locs hP hD hS => ?_)
  have T := hw_setS (k := 5) (v := 0) hi rfl ⟨hP, hD, hS⟩
  have e9 : sp_plan S i x1 x2 x3 x4 x5 = up2 (up2 (up2 (up2 (up2 (up2 S i 0 x1) i 1 x2) i 2 x3) i 3 x4) i 4 x5) i 5 0 := by rfl
  exact hw_vret C T (by rw [e9]) dX0_plan_32
/-- hasNeighbour, its picture -/
def sp_hasNeighbour (S : Nat → Nat → Int32) (i : Nat) (x1 : Int32) : Int32 := if ((((S i 5).toUInt32 >>> (x1.toUInt32 &&& Int32.toUInt32 31)).toInt32) &&& 1) = 0 then 0 else 1
set_option maxHeartbeats 4000000 in
set_option maxRecDepth 100000 in
theorem c_S_hasNeighbour {i : Nat} {x1 : Int32} (hi : i < 32) : MI l D ((cA, .object RX0) :: tz) yX0_hasNeighbour wsX0_hasNeighbour { frames := 0, cells := 0, slots := 0, locals := 0 } [.ref (ad i), .int x1] (hw_W h a ad cA G S) (sp_hasNeighbour S i x1) (hw_W h a ad cA G S) := by
  refine MI.start (cc := cX0_hasNeighbour) (maxL := 2) (by decide) rfl (Nat.le_of_ble_eq_true rfl) (fun p e s m args below meth c A ls C T hl => ?_)
  have hx := C.1.1
  have hb := C.1.2.1
  have hml := C.1.2.2.1
  have hown : s.vm.findClass RX0 = some m.cls := C.1.2.2.2.1
  have hts := C.1.2.2.2.2
  have hK := C.2.2.2.1
  have hinS : ∀ w ∈ wsX00, w ∈ wsX0_hasNeighbour := by decide +kernel
  have hl : lv_has ls 2 [(0, .ref (ad i)), (1, .int x1)] := hl
  refine lv_aload_n hx hb dX0_hasNeighbour_0 rfl (lv_at hl 0 rfl) ?_
  refine va_get (D := D) (ci := 0) (v := .int (S i 5)) (C := RX0) (T := TX0) (N := 13) hx hb hts hinS hown hK T.1 (i + 2) (hw_at hi) rfl 5 (by decide) (hts (.fieldLink RX0 27 "MoverHall$Sector" "neighbours" "I") (by decide +kernel)) (fun _ h9 => h9) rfl dX0_hasNeighbour_1 ?_
  refine lv_iload_n hx hb dX0_hasNeighbour_4 rfl (lv_at hl 1 rfl) ?_
  refine lv_iushr hx hb dX0_hasNeighbour_5 rfl ?_
  refine lv_iconst (v := 1) hx hb dX0_hasNeighbour_6 (by decide) ?_
  refine lv_iand hx hb dX0_hasNeighbour_7 ?_
  refine lv_if_eq (tgt := 15) hx hb dX0_hasNeighbour_8 (by decide) (fun c_8 => ?_) (fun c_8 => ?_)
  · skip
    refine lv_iconst (v := 0) hx hb dX0_hasNeighbour_15 (by decide) ?_
    have e9 : sp_hasNeighbour S i x1 = 0 := by unfold sp_hasNeighbour; simp only [if_pos c_8]
    exact hw_iret C T (by decide) e9.symm rfl dX0_hasNeighbour_16
  · skip
    refine lv_iconst (v := 1) hx hb dX0_hasNeighbour_11 (by decide) ?_
    refine lv_goto (tgt := 16) hx hb dX0_hasNeighbour_12 (by decide) ?_
    have e9 : sp_hasNeighbour S i x1 = 1 := by unfold sp_hasNeighbour; simp only [if_neg c_8]
    exact hw_iret C T (by decide) e9.symm rfl dX0_hasNeighbour_16
/-- hasNeighbours, its picture -/
def sp_hasNeighbours (S : Nat → Nat → Int32) (i : Nat) : Int32 := if (S i 5) = 0 then 0 else 1
set_option maxHeartbeats 4000000 in
set_option maxRecDepth 100000 in
theorem c_S_hasNeighbours {i : Nat} (hi : i < 32) : MI l D ((cA, .object RX0) :: tz) yX0_hasNeighbours wsX0_hasNeighbours { frames := 0, cells := 0, slots := 0, locals := 0 } [.ref (ad i)] (hw_W h a ad cA G S) (sp_hasNeighbours S i) (hw_W h a ad cA G S) := by
  refine MI.start (cc := cX0_hasNeighbours) (maxL := 1) (by decide) rfl (Nat.le_of_ble_eq_true rfl) (fun p e s m args below meth c A ls C T hl => ?_)
  have hx := C.1.1
  have hb := C.1.2.1
  have hml := C.1.2.2.1
  have hown : s.vm.findClass RX0 = some m.cls := C.1.2.2.2.1
  have hts := C.1.2.2.2.2
  have hK := C.2.2.2.1
  have hinS : ∀ w ∈ wsX00, w ∈ wsX0_hasNeighbours := by decide +kernel
  have hl : lv_has ls 1 [(0, .ref (ad i))] := hl
  refine lv_aload_n hx hb dX0_hasNeighbours_0 rfl (lv_at hl 0 rfl) ?_
  refine va_get (D := D) (ci := 0) (v := .int (S i 5)) (C := RX0) (T := TX0) (N := 13) hx hb hts hinS hown hK T.1 (i + 2) (hw_at hi) rfl 5 (by decide) (hts (.fieldLink RX0 27 "MoverHall$Sector" "neighbours" "I") (by decide +kernel)) (fun _ h9 => h9) rfl dX0_hasNeighbours_1 ?_
  refine lv_if_eq (tgt := 11) hx hb dX0_hasNeighbours_4 (by decide) (fun c_4 => ?_) (fun c_4 => ?_)
  · skip
    refine lv_iconst (v := 0) hx hb dX0_hasNeighbours_11 (by decide) ?_
    have e9 : sp_hasNeighbours S i = 0 := by unfold sp_hasNeighbours; simp only [if_pos c_4]
    exact hw_iret C T (by decide) e9.symm rfl dX0_hasNeighbours_12
  · skip
    refine lv_iconst (v := 1) hx hb dX0_hasNeighbours_7 (by decide) ?_
    refine lv_goto (tgt := 12) hx hb dX0_hasNeighbours_8 (by decide) ?_
    have e9 : sp_hasNeighbours S i = 1 := by unfold sp_hasNeighbours; simp only [if_neg c_4]
    exact hw_iret C T (by decide) e9.symm rfl dX0_hasNeighbours_12
/-- addNeighbour, its picture -/
def sp_addNeighbour (S : Nat → Nat → Int32) (i : Nat) (x1 : Int32) : Nat → Nat → Int32 := up2 S i 5 ((S i 5) ||| (1 <<< (x1 &&& 31)))
set_option maxHeartbeats 4000000 in
set_option maxRecDepth 100000 in
theorem c_S_addNeighbour {i : Nat} {x1 : Int32} (hi : i < 32) : MV l D ((cA, .object RX0) :: tz) yX0_addNeighbour wsX0_addNeighbour { frames := 0, cells := 0, slots := 0, locals := 0 } [.ref (ad i), .int x1] (hw_W h a ad cA G S) (hw_W h a ad cA G (sp_addNeighbour S i x1)) := by
  refine MV.start (cc := cX0_addNeighbour) (maxL := 2) (by decide) rfl (Nat.le_of_ble_eq_true rfl) (fun p e s m args below meth c A ls C T hl => ?_)
  have hx := C.1.1
  have hb := C.1.2.1
  have hml := C.1.2.2.1
  have hown : s.vm.findClass RX0 = some m.cls := C.1.2.2.2.1
  have hts := C.1.2.2.2.2
  have hK := C.2.2.2.1
  have hinS : ∀ w ∈ wsX00, w ∈ wsX0_addNeighbour := by decide +kernel
  have hl : lv_has ls 2 [(0, .ref (ad i)), (1, .int x1)] := hl
  refine lv_aload_n hx hb dX0_addNeighbour_0 rfl (lv_at hl 0 rfl) ?_
  refine lv_dup hx hb dX0_addNeighbour_1 rfl ?_
  refine va_get (D := D) (ci := 0) (v := .int (S i 5)) (C := RX0) (T := TX0) (N := 13) hx hb hts hinS hown hK T.1 (i + 2) (hw_at hi) rfl 5 (by decide) (hts (.fieldLink RX0 27 "MoverHall$Sector" "neighbours" "I") (by decide +kernel)) (fun _ h9 => h9) rfl dX0_addNeighbour_2 ?_
  refine lv_iconst (v := 1) hx hb dX0_addNeighbour_5 (by decide) ?_
  refine lv_iload_n hx hb dX0_addNeighbour_6 rfl (lv_at hl 1 rfl) ?_
  refine lv_ishl hx hb dX0_addNeighbour_7 ?_
  refine lv_ior hx hb dX0_addNeighbour_8 ?_
  refine va_put (D := D) (ci := 0) (v := .int ((S i 5) ||| (1 <<< (x1 &&& 31)))) (ty := .int) (C := RX0) (T := TX0) (N := 13) hx hb hts hinS tyX0 tyX0_ok nmX0 hown hK T.1 T.2.1 T.2.2 (i + 2) (hw_at hi) rfl 5 (by decide) (hts (.fieldLink RX0 27 "MoverHall$Sector" "neighbours" "I") (by decide +kernel)) (fun _ h9 => h9) rfl (by decide +kernel) rfl rfl (Nat.le_of_ble_eq_true rfl) dX0_addNeighbour_9 (fun H locs hP hD hS => ?_)
  have T := hw_setS (k := 5) (v := (S i 5) ||| (1 <<< (x1 &&& 31))) hi rfl ⟨hP, hD, hS⟩
  have e9 : sp_addNeighbour S i x1 = up2 S i 5 ((S i 5) ||| (1 <<< (x1 &&& 31))) := by rfl
  exact hw_vret C T (by rw [e9]) dX0_addNeighbour_12
end
