section
variable {l : Launch} {D : va_G} {h a : Nat} {ad : Nat → Nat} {cA : ClassId} {tz : List (ClassId × FieldType)} {G : Nat → Int32} {S : Nat → Nat → Int32} {n : Nat}
/-- start, its picture -/
def sp_start (G : Nat → Int32) (S : Nat → Nat → Int32) (n : Nat) (j : Nat) (x2 : Int32) : (Nat → Int32) × (Nat → Nat → Int32) := if x2 = 1 then (upd G 3 ((G 3) + 1), sp_go (up2 (up2 (up2 S j 8 x2) j 12 ((up2 S j 8 x2) j 6)) j 11 (sp_endOfWay (up2 (up2 S j 8 x2) j 12 ((up2 S j 8 x2) j 6)) n j x2)) j (-1)) else (upd G 3 ((G 3) + 1), sp_go (up2 (up2 (up2 S j 8 x2) j 12 ((up2 S j 8 x2) j 6)) j 11 (sp_endOfWay (up2 (up2 S j 8 x2) j 12 ((up2 S j 8 x2) j 6)) n j x2)) j 1)
theorem sp_start_0 {G : Nat → Int32} {S : Nat → Nat → Int32} {n : Nat} {j : Nat} {x2 : Int32} : (sp_start G S n j x2).1 0 = G 0 := by
  unfold sp_start
  repeat' split
  all_goals rfl
set_option maxHeartbeats 4000000 in
set_option maxRecDepth 100000 in
theorem c_H_start {j : Nat} {x2 : Int32} (hj : j < 32) (hG : hg_n G n) : MV l D ((cA, .object RX0) :: tz) yX1_start wsX1_start { frames := 3, cells := 0, slots := 0, locals := 66 } [.ref h, .ref (ad j), .int x2] (hw_W h a ad cA G S) (hw_W h a ad cA (sp_start G S n j x2).1 (sp_start G S n j x2).2) := by
  refine MV.start (cc := cX1_start) (maxL := 3) (by decide) rfl (Nat.le_of_ble_eq_true rfl) (fun p e s m args below meth c A ls C T hl => ?_)
  have hx := C.1.1
  have hb := C.1.2.1
  have hml := C.1.2.2.1
  have hown : s.vm.findClass RX1 = some m.cls := C.1.2.2.2.1
  have hts := C.1.2.2.2.2
  have hK := C.2.2.2.1
  have hN := C.2.2.2.2.1
  have hinH : ∀ w ∈ wsX10, w ∈ wsX1_start := by decide +kernel
  have hinS : ∀ w ∈ wsX00, w ∈ wsX1_start := by decide +kernel
  have hn32 := hG.1
  have hl : lv_has ls 3 [(0, .ref h), (1, .ref (ad j)), (2, .int x2)] := hl
  refine lv_aload_n hx hb dX1_start_0 rfl (lv_at hl 1 rfl) ?_
  refine lv_iload_n hx hb dX1_start_1 rfl (lv_at hl 2 rfl) ?_
  refine va_putN (D := D) (ci := 0) (v := .int x2) (ty := .int) (C := RX0) (T := TX0) (N := 13) hx hb hts hinS tyX0 tyX0_ok nmX0 hown hK T.1 T.2.1 T.2.2 (j + 2) (hw_at hj) rfl 8 (by decide) (va_Nw.use rfl (hN (.fieldLinkNest RX1 67 "MoverHall$Sector" "mover" "I" "MoverHall") (by decide +kernel))) (fun _ h9 => h9) rfl (by decide +kernel) rfl rfl (Nat.le_of_ble_eq_true rfl) dX1_start_2 (fun H locs hP hD hS => ?_)
  have T := hw_setS (k := 8) (v := x2) hj rfl ⟨hP, hD, hS⟩
  refine lv_aload_n hx hb dX1_start_5 rfl (lv_at hl 1 rfl) ?_
  refine lv_aload_n hx hb dX1_start_6 rfl (lv_at hl 1 rfl) ?_
  refine va_getN (D := D) (ci := 0) (v := .int ((up2 S j 8 x2) j 6)) (C := RX0) (T := TX0) (N := 13) hx hb hts hinS hown hK T.1 (j + 2) (hw_at hj) rfl 6 (by decide) (va_Nw.use rfl (hN (.fieldLinkNest RX1 90 "MoverHall$Sector" "floor" "I" "MoverHall") (by decide +kernel))) (fun _ h9 => h9) rfl dX1_start_7 ?_
  refine va_putN (D := D) (ci := 0) (v := .int ((up2 S j 8 x2) j 6)) (ty := .int) (C := RX0) (T := TX0) (N := 13) hx hb hts hinS tyX0 tyX0_ok nmX0 hown hK T.1 T.2.1 T.2.2 (j + 2) (hw_at hj) rfl 12 (by decide) (va_Nw.use rfl (hN (.fieldLinkNest RX1 137 "MoverHall$Sector" "startFloor" "I" "MoverHall") (by decide +kernel))) (fun _ h9 => h9) rfl (by decide +kernel) rfl rfl (Nat.le_of_ble_eq_true rfl) dX1_start_10 (fun H locs hP hD hS => ?_)
  have T := hw_setS (k := 12) (v := (up2 S j 8 x2) j 6) hj rfl ⟨hP, hD, hS⟩
  refine lv_aload_n hx hb dX1_start_13 rfl (lv_at hl 1 rfl) ?_
  refine lv_aload_n hx hb dX1_start_14 rfl (lv_at hl 0 rfl) ?_
  refine lv_aload_n hx hb dX1_start_15 rfl (lv_at hl 1 rfl) ?_
  refine lv_iload_n hx hb dX1_start_16 rfl (lv_at hl 2 rfl) ?_
  refine hw_Vi (As := [.ref (ad j), .int x2]) (rest := [.ref (ad j)]) C T (c_H_endOfWay hj hG) (cwV 2 hts gX1_start_X1_endOfWay rfl rfl rfl (by decide +kernel) ⟨Nat.le_of_ble_eq_true rfl, Nat.le_of_ble_eq_true rfl⟩) hw_isH hw_ad rfl hl.1 rfl (Nat.le_of_ble_eq_true rfl) dX1_start_17 ⟨Nat.zero_le _, Nat.zero_le _⟩ (fun H locs T => ?_)
  refine va_putN (D := D) (ci := 0) (v := .int (sp_endOfWay (up2 (up2 S j 8 x2) j 12 ((up2 S j 8 x2) j 6)) n j x2)) (ty := .int) (C := RX0) (T := TX0) (N := 13) hx hb hts hinS tyX0 tyX0_ok nmX0 hown hK T.1 T.2.1 T.2.2 (j + 2) (hw_at hj) rfl 11 (by decide) (va_Nw.use rfl (hN (.fieldLinkNest RX1 112 "MoverHall$Sector" "wayEnd" "I" "MoverHall") (by decide +kernel))) (fun _ h9 => h9) rfl (by decide +kernel) rfl rfl (Nat.le_of_ble_eq_true rfl) dX1_start_20 (fun H locs hP hD hS => ?_)
  have T := hw_setS (k := 11) (v := sp_endOfWay (up2 (up2 S j 8 x2) j 12 ((up2 S j 8 x2) j 6)) n j x2) hj rfl ⟨hP, hD, hS⟩
  refine lv_aload_n hx hb dX1_start_23 rfl (lv_at hl 1 rfl) ?_
  refine lv_iload_n hx hb dX1_start_24 rfl (lv_at hl 2 rfl) ?_
  refine lv_iconst (v := 1) hx hb dX1_start_25 (by decide) ?_
  refine lv_icmp_ne (tgt := 33) hx hb dX1_start_26 (by decide) (fun c_26 => ?_) (fun c_26 => ?_)
  · skip
    refine lv_iconst (v := 1) hx hb dX1_start_33 (by decide) ?_
    refine hw_Nv (As := [.int 1]) (rest := []) C T (c_S_go hj) ⟨va_cnB 1 hts gX1_start_X0_go_n77 rfl rfl rfl (hN (.methodLinkNest RX1 77 yX0_go "MoverHall") (by decide +kernel)) (hts (.initialized RX0) (by decide +kernel)) (by decide +kernel) ⟨Nat.le_of_ble_eq_true rfl, Nat.le_of_ble_eq_true rfl⟩, hts (.instanceMethod yX0_go) (by decide +kernel), hts (.selects RX0 yX0_go yX0_go) (by decide +kernel)⟩ (hw_isS hj) hw_ad rfl hl.1 rfl (Nat.le_of_ble_eq_true rfl) dX1_start_34 ⟨Nat.zero_le _, Nat.zero_le _⟩ (fun H locs T => ?_)
    refine lv_aload_n hx hb dX1_start_37 rfl (lv_at hl 0 rfl) ?_
    refine lv_dup hx hb dX1_start_38 rfl ?_
    refine va_get (D := D) (ci := 1) (v := .int (G 3)) (C := RX1) (T := TX1) (N := 7) hx hb hts hinH hown hK T.1 0 rfl rfl 4 (by decide) (hts (.fieldLink RX1 58 "MoverHall" "moverCount" "I") (by decide +kernel)) (fun _ h9 => h9) rfl dX1_start_39 ?_
    refine lv_iconst (v := 1) hx hb dX1_start_42 (by decide) ?_
    refine lv_iadd hx hb dX1_start_43 ?_
    refine va_put (D := D) (ci := 1) (v := .int ((G 3) + 1)) (ty := .int) (C := RX1) (T := TX1) (N := 7) hx hb hts hinH tyX1 tyX1_ok nmX1 hown hK T.1 T.2.1 T.2.2 0 rfl rfl 4 (by decide) (hts (.fieldLink RX1 58 "MoverHall" "moverCount" "I") (by decide +kernel)) (fun _ h9 => h9) rfl (by decide +kernel) rfl rfl (Nat.le_of_ble_eq_true rfl) dX1_start_44 (fun H locs hP hD hS => ?_)
    have T := hw_setH (k := 3) (v := (G 3) + 1) rfl ⟨hP, hD, hS⟩
    have e9 : sp_start G S n j x2 = (upd G 3 ((G 3) + 1), sp_go (up2 (up2 (up2 S j 8 x2) j 12 ((up2 S j 8 x2) j 6)) j 11 (sp_endOfWay (up2 (up2 S j 8 x2) j 12 ((up2 S j 8 x2) j 6)) n j x2)) j 1) := by unfold sp_start; simp only [if_neg c_26]
    exact hw_vret C T (by rw [e9]) dX1_start_47
  · skip
    refine lv_iconst (v := (-1)) hx hb dX1_start_29 (by decide) ?_
    refine lv_goto (tgt := 34) hx hb dX1_start_30 (by decide) ?_
    refine hw_Nv (As := [.int (-1)]) (rest := []) C T (c_S_go hj) ⟨va_cnB 1 hts gX1_start_X0_go_n77 rfl rfl rfl (hN (.methodLinkNest RX1 77 yX0_go "MoverHall") (by decide +kernel)) (hts (.initialized RX0) (by decide +kernel)) (by decide +kernel) ⟨Nat.le_of_ble_eq_true rfl, Nat.le_of_ble_eq_true rfl⟩, hts (.instanceMethod yX0_go) (by decide +kernel), hts (.selects RX0 yX0_go yX0_go) (by decide +kernel)⟩ (hw_isS hj) hw_ad rfl hl.1 rfl (Nat.le_of_ble_eq_true rfl) dX1_start_34 ⟨Nat.zero_le _, Nat.zero_le _⟩ (fun H locs T => ?_)
    refine lv_aload_n hx hb dX1_start_37 rfl (lv_at hl 0 rfl) ?_
    refine lv_dup hx hb dX1_start_38 rfl ?_
    refine va_get (D := D) (ci := 1) (v := .int (G 3)) (C := RX1) (T := TX1) (N := 7) hx hb hts hinH hown hK T.1 0 rfl rfl 4 (by decide) (hts (.fieldLink RX1 58 "MoverHall" "moverCount" "I") (by decide +kernel)) (fun _ h9 => h9) rfl dX1_start_39 ?_
    refine lv_iconst (v := 1) hx hb dX1_start_42 (by decide) ?_
    refine lv_iadd hx hb dX1_start_43 ?_
    refine va_put (D := D) (ci := 1) (v := .int ((G 3) + 1)) (ty := .int) (C := RX1) (T := TX1) (N := 7) hx hb hts hinH tyX1 tyX1_ok nmX1 hown hK T.1 T.2.1 T.2.2 0 rfl rfl 4 (by decide) (hts (.fieldLink RX1 58 "MoverHall" "moverCount" "I") (by decide +kernel)) (fun _ h9 => h9) rfl (by decide +kernel) rfl rfl (Nat.le_of_ble_eq_true rfl) dX1_start_44 (fun H locs hP hD hS => ?_)
    have T := hw_setH (k := 3) (v := (G 3) + 1) rfl ⟨hP, hD, hS⟩
    have e9 : sp_start G S n j x2 = (upd G 3 ((G 3) + 1), sp_go (up2 (up2 (up2 S j 8 x2) j 12 ((up2 S j 8 x2) j 6)) j 11 (sp_endOfWay (up2 (up2 S j 8 x2) j 12 ((up2 S j 8 x2) j 6)) n j x2)) j (-1)) := by unfold sp_start; simp only [if_pos c_26]
    exact hw_vret C T (by rw [e9]) dX1_start_47
/-- finish, its picture -/
def sp_finish (G : Nat → Int32) (S : Nat → Nat → Int32) (j : Nat) : (Nat → Int32) × (Nat → Nat → Int32) := (upd G 3 ((G 3) - 1), sp_dropMover S j)
theorem sp_finish_0 {G : Nat → Int32} {S : Nat → Nat → Int32} {j : Nat} : (sp_finish G S j).1 0 = G 0 := by
  rfl
set_option maxHeartbeats 4000000 in
set_option maxRecDepth 100000 in
theorem c_H_finish {j : Nat} (hj : j < 32) : MV l D ((cA, .object RX0) :: tz) yX1_finish wsX1_finish { frames := 1, cells := 0, slots := 0, locals := 20 } [.ref h, .ref (ad j)] (hw_W h a ad cA G S) (hw_W h a ad cA (sp_finish G S j).1 (sp_finish G S j).2) := by
  refine MV.start (cc := cX1_finish) (maxL := 2) (by decide) rfl (Nat.le_of_ble_eq_true rfl) (fun p e s m args below meth c A ls C T hl => ?_)
  have hx := C.1.1
  have hb := C.1.2.1
  have hml := C.1.2.2.1
  have hown : s.vm.findClass RX1 = some m.cls := C.1.2.2.2.1
  have hts := C.1.2.2.2.2
  have hK := C.2.2.2.1
  have hN := C.2.2.2.2.1
  have hinH : ∀ w ∈ wsX10, w ∈ wsX1_finish := by decide +kernel
  have hl : lv_has ls 2 [(0, .ref h), (1, .ref (ad j))] := hl
  refine lv_aload_n hx hb dX1_finish_0 rfl (lv_at hl 1 rfl) ?_
  refine hw_Nv (As := []) (rest := []) C T (c_S_dropMover hj) ⟨va_cnB 0 hts gX1_finish_X0_dropMover_n144 rfl rfl rfl (hN (.methodLinkNest RX1 144 yX0_dropMover "MoverHall") (by decide +kernel)) (hts (.initialized RX0) (by decide +kernel)) (by decide +kernel) ⟨Nat.le_of_ble_eq_true rfl, Nat.le_of_ble_eq_true rfl⟩, hts (.instanceMethod yX0_dropMover) (by decide +kernel), hts (.selects RX0 yX0_dropMover yX0_dropMover) (by decide +kernel)⟩ (hw_isS hj) hw_ad rfl hl.1 rfl (Nat.le_of_ble_eq_true rfl) dX1_finish_1 ⟨Nat.zero_le _, Nat.zero_le _⟩ (fun H locs T => ?_)
  refine lv_aload_n hx hb dX1_finish_4 rfl (lv_at hl 0 rfl) ?_
  refine lv_dup hx hb dX1_finish_5 rfl ?_
  refine va_get (D := D) (ci := 1) (v := .int (G 3)) (C := RX1) (T := TX1) (N := 7) hx hb hts hinH hown hK T.1 0 rfl rfl 4 (by decide) (hts (.fieldLink RX1 58 "MoverHall" "moverCount" "I") (by decide +kernel)) (fun _ h9 => h9) rfl dX1_finish_6 ?_
  refine lv_iconst (v := 1) hx hb dX1_finish_9 (by decide) ?_
  refine lv_isub hx hb dX1_finish_10 ?_
  refine va_put (D := D) (ci := 1) (v := .int ((G 3) - 1)) (ty := .int) (C := RX1) (T := TX1) (N := 7) hx hb hts hinH tyX1 tyX1_ok nmX1 hown hK T.1 T.2.1 T.2.2 0 rfl rfl 4 (by decide) (hts (.fieldLink RX1 58 "MoverHall" "moverCount" "I") (by decide +kernel)) (fun _ h9 => h9) rfl (by decide +kernel) rfl rfl (Nat.le_of_ble_eq_true rfl) dX1_finish_11 (fun H locs hP hD hS => ?_)
  have T := hw_setH (k := 3) (v := (G 3) - 1) rfl ⟨hP, hD, hS⟩
  have e9 : sp_finish G S j = (upd G 3 ((G 3) - 1), sp_dropMover S j) := by rfl
  exact hw_vret C T (by rw [e9]) dX1_finish_14
/-- raiseFloor, its picture -/
def sp_raiseFloor (G : Nat → Int32) (S : Nat → Nat → Int32) (j : Nat) (x2 : Int32) (x3 : Int32) (x4 : Int32) : (Nat → Int32) × (Nat → Nat → Int32) := if x4 = 0 then (if (sp_min ((S j 6) + x2) x3) = x3 then ((sp_finish G (up2 S j 6 (sp_min ((S j 6) + x2) x3)) j).1, (sp_finish G (up2 S j 6 (sp_min ((S j 6) + x2) x3)) j).2) else (G, up2 S j 6 (sp_min ((S j 6) + x2) x3))) else (if 56 ≤ ((S j 7) - (sp_min ((S j 6) + x2) x3)) then (if (sp_min ((S j 6) + x2) x3) = x3 then ((sp_finish G (up2 S j 6 (sp_min ((S j 6) + x2) x3)) j).1, (sp_finish G (up2 S j 6 (sp_min ((S j 6) + x2) x3)) j).2) else (G, up2 S j 6 (sp_min ((S j 6) + x2) x3))) else (upd G 4 ((G 4) + 1), S))
theorem sp_raiseFloor_0 {G : Nat → Int32} {S : Nat → Nat → Int32} {j : Nat} {x2 : Int32} {x3 : Int32} {x4 : Int32} : (sp_raiseFloor G S j x2 x3 x4).1 0 = G 0 := by
  unfold sp_raiseFloor
  repeat' split
  all_goals first | rfl | exact sp_finish_0
set_option maxHeartbeats 4000000 in
set_option maxRecDepth 100000 in
theorem c_H_raiseFloor {j : Nat} {x2 : Int32} {x3 : Int32} {x4 : Int32} (hj : j < 32) : MV l D ((cA, .object RX0) :: tz) yX1_raiseFloor wsX1_raiseFloor { frames := 2, cells := 0, slots := 0, locals := 41 } [.ref h, .ref (ad j), .int x2, .int x3, .int x4] (hw_W h a ad cA G S) (hw_W h a ad cA (sp_raiseFloor G S j x2 x3 x4).1 (sp_raiseFloor G S j x2 x3 x4).2) := by
  refine MV.start (cc := cX1_raiseFloor) (maxL := 6) (by decide) rfl (Nat.le_of_ble_eq_true rfl) (fun p e s m args below meth c A ls C T hl => ?_)
  have hx := C.1.1
  have hb := C.1.2.1
  have hml := C.1.2.2.1
  have hown : s.vm.findClass RX1 = some m.cls := C.1.2.2.2.1
  have hts := C.1.2.2.2.2
  have hK := C.2.2.2.1
  have hN := C.2.2.2.2.1
  have hinH : ∀ w ∈ wsX10, w ∈ wsX1_raiseFloor := by decide +kernel
  have hinS : ∀ w ∈ wsX00, w ∈ wsX1_raiseFloor := by decide +kernel
  have hl : lv_has ls 6 [(0, .ref h), (1, .ref (ad j)), (2, .int x2), (3, .int x3), (4, .int x4)] := hl
  refine lv_aload_n hx hb dX1_raiseFloor_0 rfl (lv_at hl 1 rfl) ?_
  refine va_getN (D := D) (ci := 0) (v := .int (S j 6)) (C := RX0) (T := TX0) (N := 13) hx hb hts hinS hown hK T.1 (j + 2) (hw_at hj) rfl 6 (by decide) (va_Nw.use rfl (hN (.fieldLinkNest RX1 90 "MoverHall$Sector" "floor" "I" "MoverHall") (by decide +kernel))) (fun _ h9 => h9) rfl dX1_raiseFloor_1 ?_
  refine lv_iload_n hx hb dX1_raiseFloor_4 rfl (lv_at hl 2 rfl) ?_
  refine lv_iadd hx hb dX1_raiseFloor_5 ?_
  refine lv_iload_n hx hb dX1_raiseFloor_6 rfl (lv_at hl 3 rfl) ?_
  refine va_mmin hx hb (by rw [hml, hl.1]) hown (hts (.methodLink RX1 118 Lib.Math.min.name) (by decide +kernel)) (hts (.static Lib.Math.min.name) (by decide +kernel)) (hts (.initialized "java/lang/Math") (by decide +kernel)) (hts (.code Lib.Math.min.name Lib.Math.min.code 2 (some .int)) (by decide +kernel)) (Nat.le_of_ble_eq_true rfl) (Nat.le_of_ble_eq_true rfl) (Nat.zero_le _) (Nat.zero_le _) dX1_raiseFloor_7 ?_
  refine W.eq (g2 := F0 m 10 ls [.int (sp_min ((S j 6) + x2) x3)]) rfl ?_
  refine lv_istore (lv' := [(5, .int (sp_min ((S j 6) + x2) x3)), (0, .ref h), (1, .ref (ad j)), (2, .int x2), (3, .int x3), (4, .int x4)]) hx hb dX1_raiseFloor_10 hl (by decide) rfl (fun ls hl => ?_)
  refine lv_iload hx hb dX1_raiseFloor_12 (lv_at hl 5 rfl) ?_
  refine lv_if_eq (tgt := 40) hx hb dX1_raiseFloor_14 (by decide) (fun c_14 => ?_) (fun c_14 => ?_)
  · skip
    refine lv_aload_n hx hb dX1_raiseFloor_40 rfl (lv_at hl 2 rfl) ?_
    refine lv_iload hx hb dX1_raiseFloor_41 (lv_at hl 0 rfl) ?_
    refine va_putN (D := D) (ci := 0) (v := .int (sp_min ((S j 6) + x2) x3)) (ty := .int) (C := RX0) (T := TX0) (N := 13) hx hb hts hinS tyX0 tyX0_ok nmX0 hown hK T.1 T.2.1 T.2.2 (j + 2) (hw_at hj) rfl 6 (by decide) (va_Nw.use rfl (hN (.fieldLinkNest RX1 90 "MoverHall$Sector" "floor" "I" "MoverHall") (by decide +kernel))) (fun _ h9 => h9) rfl (by decide +kernel) rfl rfl (Nat.le_of_ble_eq_true rfl) dX1_raiseFloor_43 (fun H locs hP hD hS => ?_)
    have T := hw_setS (k := 6) (v := sp_min ((S j 6) + x2) x3) hj rfl ⟨hP, hD, hS⟩
    refine lv_iload hx hb dX1_raiseFloor_46 (lv_at hl 0 rfl) ?_
    refine lv_iload_n hx hb dX1_raiseFloor_48 rfl (lv_at hl 4 rfl) ?_
    refine lv_icmp_ne (tgt := 57) hx hb dX1_raiseFloor_49 (by decide) (fun c_49 => ?_) (fun c_49 => ?_)
    · skip
      have e9 : sp_raiseFloor G S j x2 x3 x4 = (G, up2 S j 6 (sp_min ((S j 6) + x2) x3)) := by unfold sp_raiseFloor; simp only [if_pos c_14, if_neg c_49]
      exact hw_vret C T (by rw [e9]) dX1_raiseFloor_57
    · skip
      refine lv_aload_n hx hb dX1_raiseFloor_52 rfl (lv_at hl 1 rfl) ?_
      refine lv_aload_n hx hb dX1_raiseFloor_53 rfl (lv_at hl 2 rfl) ?_
      refine hw_Vv (As := [.ref (ad j)]) (rest := []) C T (c_H_finish hj) (cwV 1 hts gX1_raiseFloor_X1_finish rfl rfl rfl (by decide +kernel) ⟨Nat.le_of_ble_eq_true rfl, Nat.le_of_ble_eq_true rfl⟩) hw_isH hw_ad rfl hl.1 rfl (Nat.le_of_ble_eq_true rfl) dX1_raiseFloor_54 ⟨Nat.zero_le _, Nat.zero_le _⟩ (fun H locs T => ?_)
      have e9 : sp_raiseFloor G S j x2 x3 x4 = ((sp_finish G (up2 S j 6 (sp_min ((S j 6) + x2) x3)) j).1, (sp_finish G (up2 S j 6 (sp_min ((S j 6) + x2) x3)) j).2) := by unfold sp_raiseFloor; simp only [if_pos c_14, if_pos c_49]
      exact hw_vret C T (by rw [e9]) dX1_raiseFloor_57
  · skip
    refine lv_aload_n hx hb dX1_raiseFloor_17 rfl (lv_at hl 2 rfl) ?_
    refine va_getN (D := D) (ci := 0) (v := .int (S j 7)) (C := RX0) (T := TX0) (N := 13) hx hb hts hinS hown hK T.1 (j + 2) (hw_at hj) rfl 7 (by decide) (va_Nw.use rfl (hN (.fieldLinkNest RX1 93 "MoverHall$Sector" "ceiling" "I" "MoverHall") (by decide +kernel))) (fun _ h9 => h9) rfl dX1_raiseFloor_18 ?_
    refine lv_iload hx hb dX1_raiseFloor_21 (lv_at hl 0 rfl) ?_
    refine lv_isub hx hb dX1_raiseFloor_23 ?_
    refine lv_bipush (v := 56) hx hb dX1_raiseFloor_24 (by decide) ?_
    refine lv_icmp_ge (tgt := 40) hx hb dX1_raiseFloor_26 (by decide) (fun c_26 => ?_) (fun c_26 => ?_)
    · skip
      refine lv_aload_n hx hb dX1_raiseFloor_40 rfl (lv_at hl 2 rfl) ?_
      refine lv_iload hx hb dX1_raiseFloor_41 (lv_at hl 0 rfl) ?_
      refine va_putN (D := D) (ci := 0) (v := .int (sp_min ((S j 6) + x2) x3)) (ty := .int) (C := RX0) (T := TX0) (N := 13) hx hb hts hinS tyX0 tyX0_ok nmX0 hown hK T.1 T.2.1 T.2.2 (j + 2) (hw_at hj) rfl 6 (by decide) (va_Nw.use rfl (hN (.fieldLinkNest RX1 90 "MoverHall$Sector" "floor" "I" "MoverHall") (by decide +kernel))) (fun _ h9 => h9) rfl (by decide +kernel) rfl rfl (Nat.le_of_ble_eq_true rfl) dX1_raiseFloor_43 (fun H locs hP hD hS => ?_)
      have T := hw_setS (k := 6) (v := sp_min ((S j 6) + x2) x3) hj rfl ⟨hP, hD, hS⟩
      refine lv_iload hx hb dX1_raiseFloor_46 (lv_at hl 0 rfl) ?_
      refine lv_iload_n hx hb dX1_raiseFloor_48 rfl (lv_at hl 4 rfl) ?_
      refine lv_icmp_ne (tgt := 57) hx hb dX1_raiseFloor_49 (by decide) (fun c_49 => ?_) (fun c_49 => ?_)
      · skip
        have e9 : sp_raiseFloor G S j x2 x3 x4 = (G, up2 S j 6 (sp_min ((S j 6) + x2) x3)) := by unfold sp_raiseFloor; simp only [if_neg c_14, if_pos c_26, if_neg c_49]
        exact hw_vret C T (by rw [e9]) dX1_raiseFloor_57
      · skip
        refine lv_aload_n hx hb dX1_raiseFloor_52 rfl (lv_at hl 1 rfl) ?_
        refine lv_aload_n hx hb dX1_raiseFloor_53 rfl (lv_at hl 2 rfl) ?_
        refine hw_Vv (As := [.ref (ad j)]) (rest := []) C T (c_H_finish hj) (cwV 1 hts gX1_raiseFloor_X1_finish rfl rfl rfl (by decide +kernel) ⟨Nat.le_of_ble_eq_true rfl, Nat.le_of_ble_eq_true rfl⟩) hw_isH hw_ad rfl hl.1 rfl (Nat.le_of_ble_eq_true rfl) dX1_raiseFloor_54 ⟨Nat.zero_le _, Nat.zero_le _⟩ (fun H locs T => ?_)
        have e9 : sp_raiseFloor G S j x2 x3 x4 = ((sp_finish G (up2 S j 6 (sp_min ((S j 6) + x2) x3)) j).1, (sp_finish G (up2 S j 6 (sp_min ((S j 6) + x2) x3)) j).2) := by unfold sp_raiseFloor; simp only [if_neg c_14, if_pos c_26, if_pos c_49]
        exact hw_vret C T (by rw [e9]) dX1_raiseFloor_57
    · skip
      refine lv_aload_n hx hb dX1_raiseFloor_29 rfl (lv_at hl 1 rfl) ?_
      refine lv_dup hx hb dX1_raiseFloor_30 rfl ?_
      refine va_get (D := D) (ci := 1) (v := .int (G 4)) (C := RX1) (T := TX1) (N := 7) hx hb hts hinH hown hK T.1 0 rfl rfl 5 (by decide) (hts (.fieldLink RX1 61 "MoverHall" "blockedCount" "I") (by decide +kernel)) (fun _ h9 => h9) rfl dX1_raiseFloor_31 ?_
      refine lv_iconst (v := 1) hx hb dX1_raiseFloor_34 (by decide) ?_
      refine lv_iadd hx hb dX1_raiseFloor_35 ?_
      refine va_put (D := D) (ci := 1) (v := .int ((G 4) + 1)) (ty := .int) (C := RX1) (T := TX1) (N := 7) hx hb hts hinH tyX1 tyX1_ok nmX1 hown hK T.1 T.2.1 T.2.2 0 rfl rfl 5 (by decide) (hts (.fieldLink RX1 61 "MoverHall" "blockedCount" "I") (by decide +kernel)) (fun _ h9 => h9) rfl (by decide +kernel) rfl rfl (Nat.le_of_ble_eq_true rfl) dX1_raiseFloor_36 (fun H locs hP hD hS => ?_)
      have T := hw_setH (k := 4) (v := (G 4) + 1) rfl ⟨hP, hD, hS⟩
      have e9 : sp_raiseFloor G S j x2 x3 x4 = (upd G 4 ((G 4) + 1), S) := by unfold sp_raiseFloor; simp only [if_neg c_14, if_neg c_26]
      exact hw_vret C T (by rw [e9]) dX1_raiseFloor_39
/-- closeDoor, its picture -/
def sp_closeDoor (G : Nat → Int32) (S : Nat → Nat → Int32) (j : Nat) (x2 : Int32) : (Nat → Int32) × (Nat → Nat → Int32) := if x2 = 0 then (if (sp_max ((S j 7) - 8) (S j 6)) = ((up2 S j 7 (sp_max ((S j 7) - 8) (S j 6))) j 6) then ((sp_finish G (up2 S j 7 (sp_max ((S j 7) - 8) (S j 6))) j).1, (sp_finish G (up2 S j 7 (sp_max ((S j 7) - 8) (S j 6))) j).2) else (G, up2 S j 7 (sp_max ((S j 7) - 8) (S j 6)))) else (if 56 ≤ ((sp_max ((S j 7) - 8) (S j 6)) - (S j 6)) then (if (sp_max ((S j 7) - 8) (S j 6)) = ((up2 S j 7 (sp_max ((S j 7) - 8) (S j 6))) j 6) then ((sp_finish G (up2 S j 7 (sp_max ((S j 7) - 8) (S j 6))) j).1, (sp_finish G (up2 S j 7 (sp_max ((S j 7) - 8) (S j 6))) j).2) else (G, up2 S j 7 (sp_max ((S j 7) - 8) (S j 6)))) else (upd G 4 ((G 4) + 1), sp_go S j 1))
theorem sp_closeDoor_0 {G : Nat → Int32} {S : Nat → Nat → Int32} {j : Nat} {x2 : Int32} : (sp_closeDoor G S j x2).1 0 = G 0 := by
  unfold sp_closeDoor
  repeat' split
  all_goals first | rfl | exact sp_finish_0
set_option maxHeartbeats 4000000 in
set_option maxRecDepth 100000 in
theorem c_H_closeDoor {j : Nat} {x2 : Int32} (hj : j < 32) : MV l D ((cA, .object RX0) :: tz) yX1_closeDoor wsX1_closeDoor { frames := 2, cells := 0, slots := 0, locals := 41 } [.ref h, .ref (ad j), .int x2] (hw_W h a ad cA G S) (hw_W h a ad cA (sp_closeDoor G S j x2).1 (sp_closeDoor G S j x2).2) := by
  refine MV.start (cc := cX1_closeDoor) (maxL := 4) (by decide) rfl (Nat.le_of_ble_eq_true rfl) (fun p e s m args below meth c A ls C T hl => ?_)
  have hx := C.1.1
  have hb := C.1.2.1
  have hml := C.1.2.2.1
  have hown : s.vm.findClass RX1 = some m.cls := C.1.2.2.2.1
  have hts := C.1.2.2.2.2
  have hK := C.2.2.2.1
  have hN := C.2.2.2.2.1
  have hinH : ∀ w ∈ wsX10, w ∈ wsX1_closeDoor := by decide +kernel
  have hinS : ∀ w ∈ wsX00, w ∈ wsX1_closeDoor := by decide +kernel
  have hl : lv_has ls 4 [(0, .ref h), (1, .ref (ad j)), (2, .int x2)] := hl
  refine lv_aload_n hx hb dX1_closeDoor_0 rfl (lv_at hl 1 rfl) ?_
  refine va_getN (D := D) (ci := 0) (v := .int (S j 7)) (C := RX0) (T := TX0) (N := 13) hx hb hts hinS hown hK T.1 (j + 2) (hw_at hj) rfl 7 (by decide) (va_Nw.use rfl (hN (.fieldLinkNest RX1 93 "MoverHall$Sector" "ceiling" "I" "MoverHall") (by decide +kernel))) (fun _ h9 => h9) rfl dX1_closeDoor_1 ?_
  refine lv_bipush (v := 8) hx hb dX1_closeDoor_4 (by decide) ?_
  refine lv_isub hx hb dX1_closeDoor_6 ?_
  refine lv_aload_n hx hb dX1_closeDoor_7 rfl (lv_at hl 1 rfl) ?_
  refine va_getN (D := D) (ci := 0) (v := .int (S j 6)) (C := RX0) (T := TX0) (N := 13) hx hb hts hinS hown hK T.1 (j + 2) (hw_at hj) rfl 6 (by decide) (va_Nw.use rfl (hN (.fieldLinkNest RX1 90 "MoverHall$Sector" "floor" "I" "MoverHall") (by decide +kernel))) (fun _ h9 => h9) rfl dX1_closeDoor_8 ?_
  refine va_mmax hx hb (by rw [hml, hl.1]) hown (hts (.methodLink RX1 124 Lib.Math.max.name) (by decide +kernel)) (hts (.static Lib.Math.max.name) (by decide +kernel)) (hts (.initialized "java/lang/Math") (by decide +kernel)) (hts (.code Lib.Math.max.name Lib.Math.max.code 2 (some .int)) (by decide +kernel)) (Nat.le_of_ble_eq_true rfl) (Nat.le_of_ble_eq_true rfl) (Nat.zero_le _) (Nat.zero_le _) dX1_closeDoor_11 ?_
  refine W.eq (g2 := F0 m 14 ls [.int (sp_max ((S j 7) - 8) (S j 6))]) rfl ?_
  refine lv_istore_n (lv' := [(3, .int (sp_max ((S j 7) - 8) (S j 6))), (0, .ref h), (1, .ref (ad j)), (2, .int x2)]) hx hb dX1_closeDoor_14 rfl hl (by decide) rfl (fun ls hl => ?_)
  refine lv_iload_n hx hb dX1_closeDoor_15 rfl (lv_at hl 3 rfl) ?_
  refine lv_if_eq (tgt := 46) hx hb dX1_closeDoor_16 (by decide) (fun c_16 => ?_) (fun c_16 => ?_)
  · skip
    refine lv_aload_n hx hb dX1_closeDoor_46 rfl (lv_at hl 2 rfl) ?_
    refine lv_iload_n hx hb dX1_closeDoor_47 rfl (lv_at hl 0 rfl) ?_
    refine va_putN (D := D) (ci := 0) (v := .int (sp_max ((S j 7) - 8) (S j 6))) (ty := .int) (C := RX0) (T := TX0) (N := 13) hx hb hts hinS tyX0 tyX0_ok nmX0 hown hK T.1 T.2.1 T.2.2 (j + 2) (hw_at hj) rfl 7 (by decide) (va_Nw.use rfl (hN (.fieldLinkNest RX1 93 "MoverHall$Sector" "ceiling" "I" "MoverHall") (by decide +kernel))) (fun _ h9 => h9) rfl (by decide +kernel) rfl rfl (Nat.le_of_ble_eq_true rfl) dX1_closeDoor_48 (fun H locs hP hD hS => ?_)
    have T := hw_setS (k := 7) (v := sp_max ((S j 7) - 8) (S j 6)) hj rfl ⟨hP, hD, hS⟩
    refine lv_iload_n hx hb dX1_closeDoor_51 rfl (lv_at hl 0 rfl) ?_
    refine lv_aload_n hx hb dX1_closeDoor_52 rfl (lv_at hl 2 rfl) ?_
    refine va_getN (D := D) (ci := 0) (v := .int ((up2 S j 7 (sp_max ((S j 7) - 8) (S j 6))) j 6)) (C := RX0) (T := TX0) (N := 13) hx hb hts hinS hown hK T.1 (j + 2) (hw_at hj) rfl 6 (by decide) (va_Nw.use rfl (hN (.fieldLinkNest RX1 90 "MoverHall$Sector" "floor" "I" "MoverHall") (by decide +kernel))) (fun _ h9 => h9) rfl dX1_closeDoor_53 ?_
    refine lv_icmp_ne (tgt := 64) hx hb dX1_closeDoor_56 (by decide) (fun c_56 => ?_) (fun c_56 => ?_)
    · skip
      have e9 : sp_closeDoor G S j x2 = (G, up2 S j 7 (sp_max ((S j 7) - 8) (S j 6))) := by unfold sp_closeDoor; simp only [if_pos c_16, if_neg c_56]
      exact hw_vret C T (by rw [e9]) dX1_closeDoor_64
    · skip
      refine lv_aload_n hx hb dX1_closeDoor_59 rfl (lv_at hl 1 rfl) ?_
      refine lv_aload_n hx hb dX1_closeDoor_60 rfl (lv_at hl 2 rfl) ?_
      refine hw_Vv (As := [.ref (ad j)]) (rest := []) C T (c_H_finish hj) (cwV 1 hts gX1_closeDoor_X1_finish rfl rfl rfl (by decide +kernel) ⟨Nat.le_of_ble_eq_true rfl, Nat.le_of_ble_eq_true rfl⟩) hw_isH hw_ad rfl hl.1 rfl (Nat.le_of_ble_eq_true rfl) dX1_closeDoor_61 ⟨Nat.zero_le _, Nat.zero_le _⟩ (fun H locs T => ?_)
      have e9 : sp_closeDoor G S j x2 = ((sp_finish G (up2 S j 7 (sp_max ((S j 7) - 8) (S j 6))) j).1, (sp_finish G (up2 S j 7 (sp_max ((S j 7) - 8) (S j 6))) j).2) := by unfold sp_closeDoor; simp only [if_pos c_16, if_pos c_56]
      exact hw_vret C T (by rw [e9]) dX1_closeDoor_64
  · skip
    refine lv_iload_n hx hb dX1_closeDoor_19 rfl (lv_at hl 0 rfl) ?_
    refine lv_aload_n hx hb dX1_closeDoor_20 rfl (lv_at hl 2 rfl) ?_
    refine va_getN (D := D) (ci := 0) (v := .int (S j 6)) (C := RX0) (T := TX0) (N := 13) hx hb hts hinS hown hK T.1 (j + 2) (hw_at hj) rfl 6 (by decide) (va_Nw.use rfl (hN (.fieldLinkNest RX1 90 "MoverHall$Sector" "floor" "I" "MoverHall") (by decide +kernel))) (fun _ h9 => h9) rfl dX1_closeDoor_21 ?_
    refine lv_isub hx hb dX1_closeDoor_24 ?_
    refine lv_bipush (v := 56) hx hb dX1_closeDoor_25 (by decide) ?_
    refine lv_icmp_ge (tgt := 46) hx hb dX1_closeDoor_27 (by decide) (fun c_27 => ?_) (fun c_27 => ?_)
    · skip
      refine lv_aload_n hx hb dX1_closeDoor_46 rfl (lv_at hl 2 rfl) ?_
      refine lv_iload_n hx hb dX1_closeDoor_47 rfl (lv_at hl 0 rfl) ?_
      refine va_putN (D := D) (ci := 0) (v := .int (sp_max ((S j 7) - 8) (S j 6))) (ty := .int) (C := RX0) (T := TX0) (N := 13) hx hb hts hinS tyX0 tyX0_ok nmX0 hown hK T.1 T.2.1 T.2.2 (j + 2) (hw_at hj) rfl 7 (by decide) (va_Nw.use rfl (hN (.fieldLinkNest RX1 93 "MoverHall$Sector" "ceiling" "I" "MoverHall") (by decide +kernel))) (fun _ h9 => h9) rfl (by decide +kernel) rfl rfl (Nat.le_of_ble_eq_true rfl) dX1_closeDoor_48 (fun H locs hP hD hS => ?_)
      have T := hw_setS (k := 7) (v := sp_max ((S j 7) - 8) (S j 6)) hj rfl ⟨hP, hD, hS⟩
      refine lv_iload_n hx hb dX1_closeDoor_51 rfl (lv_at hl 0 rfl) ?_
      refine lv_aload_n hx hb dX1_closeDoor_52 rfl (lv_at hl 2 rfl) ?_
      refine va_getN (D := D) (ci := 0) (v := .int ((up2 S j 7 (sp_max ((S j 7) - 8) (S j 6))) j 6)) (C := RX0) (T := TX0) (N := 13) hx hb hts hinS hown hK T.1 (j + 2) (hw_at hj) rfl 6 (by decide) (va_Nw.use rfl (hN (.fieldLinkNest RX1 90 "MoverHall$Sector" "floor" "I" "MoverHall") (by decide +kernel))) (fun _ h9 => h9) rfl dX1_closeDoor_53 ?_
      refine lv_icmp_ne (tgt := 64) hx hb dX1_closeDoor_56 (by decide) (fun c_56 => ?_) (fun c_56 => ?_)
      · skip
        have e9 : sp_closeDoor G S j x2 = (G, up2 S j 7 (sp_max ((S j 7) - 8) (S j 6))) := by unfold sp_closeDoor; simp only [if_neg c_16, if_pos c_27, if_neg c_56]
        exact hw_vret C T (by rw [e9]) dX1_closeDoor_64
      · skip
        refine lv_aload_n hx hb dX1_closeDoor_59 rfl (lv_at hl 1 rfl) ?_
        refine lv_aload_n hx hb dX1_closeDoor_60 rfl (lv_at hl 2 rfl) ?_
        refine hw_Vv (As := [.ref (ad j)]) (rest := []) C T (c_H_finish hj) (cwV 1 hts gX1_closeDoor_X1_finish rfl rfl rfl (by decide +kernel) ⟨Nat.le_of_ble_eq_true rfl, Nat.le_of_ble_eq_true rfl⟩) hw_isH hw_ad rfl hl.1 rfl (Nat.le_of_ble_eq_true rfl) dX1_closeDoor_61 ⟨Nat.zero_le _, Nat.zero_le _⟩ (fun H locs T => ?_)
        have e9 : sp_closeDoor G S j x2 = ((sp_finish G (up2 S j 7 (sp_max ((S j 7) - 8) (S j 6))) j).1, (sp_finish G (up2 S j 7 (sp_max ((S j 7) - 8) (S j 6))) j).2) := by unfold sp_closeDoor; simp only [if_neg c_16, if_pos c_27, if_pos c_56]
        exact hw_vret C T (by rw [e9]) dX1_closeDoor_64
    · skip
      refine lv_aload_n hx hb dX1_closeDoor_30 rfl (lv_at hl 1 rfl) ?_
      refine lv_dup hx hb dX1_closeDoor_31 rfl ?_
      refine va_get (D := D) (ci := 1) (v := .int (G 4)) (C := RX1) (T := TX1) (N := 7) hx hb hts hinH hown hK T.1 0 rfl rfl 5 (by decide) (hts (.fieldLink RX1 61 "MoverHall" "blockedCount" "I") (by decide +kernel)) (fun _ h9 => h9) rfl dX1_closeDoor_32 ?_
      refine lv_iconst (v := 1) hx hb dX1_closeDoor_35 (by decide) ?_
      refine lv_iadd hx hb dX1_closeDoor_36 ?_
      refine va_put (D := D) (ci := 1) (v := .int ((G 4) + 1)) (ty := .int) (C := RX1) (T := TX1) (N := 7) hx hb hts hinH tyX1 tyX1_ok nmX1 hown hK T.1 T.2.1 T.2.2 0 rfl rfl 5 (by decide) (hts (.fieldLink RX1 61 "MoverHall" "blockedCount" "I") (by decide +kernel)) (fun _ h9 => h9) rfl (by decide +kernel) rfl rfl (Nat.le_of_ble_eq_true rfl) dX1_closeDoor_37 (fun H locs hP hD hS => ?_)
      have T := hw_setH (k := 4) (v := (G 4) + 1) rfl ⟨hP, hD, hS⟩
      refine lv_aload_n hx hb dX1_closeDoor_40 rfl (lv_at hl 2 rfl) ?_
      refine lv_iconst (v := 1) hx hb dX1_closeDoor_41 (by decide) ?_
      refine hw_Nv (As := [.int 1]) (rest := []) C T (c_S_go hj) ⟨va_cnB 1 hts gX1_closeDoor_X0_go_n77 rfl rfl rfl (hN (.methodLinkNest RX1 77 yX0_go "MoverHall") (by decide +kernel)) (hts (.initialized RX0) (by decide +kernel)) (by decide +kernel) ⟨Nat.le_of_ble_eq_true rfl, Nat.le_of_ble_eq_true rfl⟩, hts (.instanceMethod yX0_go) (by decide +kernel), hts (.selects RX0 yX0_go yX0_go) (by decide +kernel)⟩ (hw_isS hj) hw_ad rfl hl.1 rfl (Nat.le_of_ble_eq_true rfl) dX1_closeDoor_42 ⟨Nat.zero_le _, Nat.zero_le _⟩ (fun H locs T => ?_)
      have e9 : sp_closeDoor G S j x2 = (upd G 4 ((G 4) + 1), sp_go S j 1) := by unfold sp_closeDoor; simp only [if_neg c_16, if_neg c_27]
      exact hw_vret C T (by rw [e9]) dX1_closeDoor_45
/-- moveDoor, its picture -/
def sp_moveDoor (G : Nat → Int32) (S : Nat → Nat → Int32) (j : Nat) (x2 : Int32) : (Nat → Int32) × (Nat → Nat → Int32) := if (S j 9) = (-1) then ((sp_closeDoor G S j x2).1, (sp_closeDoor G S j x2).2) else (if ((up2 S j 7 (sp_min ((S j 7) + 8) (S j 11))) j 7) = ((up2 S j 7 (sp_min ((S j 7) + 8) (S j 11))) j 11) then (G, sp_waitFor (up2 S j 7 (sp_min ((S j 7) + 8) (S j 11))) j 20) else (G, up2 S j 7 (sp_min ((S j 7) + 8) (S j 11))))
theorem sp_moveDoor_0 {G : Nat → Int32} {S : Nat → Nat → Int32} {j : Nat} {x2 : Int32} : (sp_moveDoor G S j x2).1 0 = G 0 := by
  unfold sp_moveDoor
  repeat' split
  all_goals first | rfl | exact sp_closeDoor_0
set_option maxHeartbeats 4000000 in
set_option maxRecDepth 100000 in
theorem c_H_moveDoor {j : Nat} {x2 : Int32} (hj : j < 32) : MV l D ((cA, .object RX0) :: tz) yX1_moveDoor wsX1_moveDoor { frames := 3, cells := 0, slots := 0, locals := 64 } [.ref h, .ref (ad j), .int x2] (hw_W h a ad cA G S) (hw_W h a ad cA (sp_moveDoor G S j x2).1 (sp_moveDoor G S j x2).2) := by
  refine MV.start (cc := cX1_moveDoor) (maxL := 3) (by decide) rfl (Nat.le_of_ble_eq_true rfl) (fun p e s m args below meth c A ls C T hl => ?_)
  have hx := C.1.1
  have hb := C.1.2.1
  have hml := C.1.2.2.1
  have hown : s.vm.findClass RX1 = some m.cls := C.1.2.2.2.1
  have hts := C.1.2.2.2.2
  have hK := C.2.2.2.1
  have hN := C.2.2.2.2.1
  have hinS : ∀ w ∈ wsX00, w ∈ wsX1_moveDoor := by decide +kernel
  have hl : lv_has ls 3 [(0, .ref h), (1, .ref (ad j)), (2, .int x2)] := hl
  refine lv_aload_n hx hb dX1_moveDoor_0 rfl (lv_at hl 1 rfl) ?_
  refine va_getN (D := D) (ci := 0) (v := .int (S j 9)) (C := RX0) (T := TX0) (N := 13) hx hb hts hinS hown hK T.1 (j + 2) (hw_at hj) rfl 9 (by decide) (va_Nw.use rfl (hN (.fieldLinkNest RX1 74 "MoverHall$Sector" "way" "I" "MoverHall") (by decide +kernel))) (fun _ h9 => h9) rfl dX1_moveDoor_1 ?_
  refine lv_iconst (v := (-1)) hx hb dX1_moveDoor_4 (by decide) ?_
  refine lv_icmp_ne (tgt := 15) hx hb dX1_moveDoor_5 (by decide) (fun c_5 => ?_) (fun c_5 => ?_)
  · skip
    refine lv_aload_n hx hb dX1_moveDoor_15 rfl (lv_at hl 1 rfl) ?_
    refine lv_aload_n hx hb dX1_moveDoor_16 rfl (lv_at hl 1 rfl) ?_
    refine va_getN (D := D) (ci := 0) (v := .int (S j 7)) (C := RX0) (T := TX0) (N := 13) hx hb hts hinS hown hK T.1 (j + 2) (hw_at hj) rfl 7 (by decide) (va_Nw.use rfl (hN (.fieldLinkNest RX1 93 "MoverHall$Sector" "ceiling" "I" "MoverHall") (by decide +kernel))) (fun _ h9 => h9) rfl dX1_moveDoor_17 ?_
    refine lv_bipush (v := 8) hx hb dX1_moveDoor_20 (by decide) ?_
    refine lv_iadd hx hb dX1_moveDoor_22 ?_
    refine lv_aload_n hx hb dX1_moveDoor_23 rfl (lv_at hl 1 rfl) ?_
    refine va_getN (D := D) (ci := 0) (v := .int (S j 11)) (C := RX0) (T := TX0) (N := 13) hx hb hts hinS hown hK T.1 (j + 2) (hw_at hj) rfl 11 (by decide) (va_Nw.use rfl (hN (.fieldLinkNest RX1 112 "MoverHall$Sector" "wayEnd" "I" "MoverHall") (by decide +kernel))) (fun _ h9 => h9) rfl dX1_moveDoor_24 ?_
    refine va_mmin hx hb (by rw [hml, hl.1]) hown (hts (.methodLink RX1 118 Lib.Math.min.name) (by decide +kernel)) (hts (.static Lib.Math.min.name) (by decide +kernel)) (hts (.initialized "java/lang/Math") (by decide +kernel)) (hts (.code Lib.Math.min.name Lib.Math.min.code 2 (some .int)) (by decide +kernel)) (Nat.le_of_ble_eq_true rfl) (Nat.le_of_ble_eq_true rfl) (Nat.zero_le _) (Nat.zero_le _) dX1_moveDoor_27 ?_
    refine W.eq (g2 := F0 m 30 ls [.int (sp_min ((S j 7) + 8) (S j 11)), .ref (ad j)]) rfl ?_
    refine va_putN (D := D) (ci := 0) (v := .int (sp_min ((S j 7) + 8) (S j 11))) (ty := .int) (C := RX0) (T := TX0) (N := 13) hx hb hts hinS tyX0 tyX0_ok nmX0 hown hK T.1 T.2.1 T.2.2 (j + 2) (hw_at hj) rfl 7 (by decide) (va_Nw.use rfl (hN (.fieldLinkNest RX1 93 "MoverHall$Sector" "ceiling" "I" "MoverHall") (by decide +kernel))) (fun _ h9 => h9) rfl (by decide +kernel) rfl rfl (Nat.le_of_ble_eq_true rfl) dX1_moveDoor_30 (fun H locs hP hD hS => ?_)
    have T := hw_setS (k := 7) (v := sp_min ((S j 7) + 8) (S j 11)) hj rfl ⟨hP, hD, hS⟩
    refine lv_aload_n hx hb dX1_moveDoor_33 rfl (lv_at hl 1 rfl) ?_
    refine va_getN (D := D) (ci := 0) (v := .int ((up2 S j 7 (sp_min ((S j 7) + 8) (S j 11))) j 7)) (C := RX0) (T := TX0) (N := 13) hx hb hts hinS hown hK T.1 (j + 2) (hw_at hj) rfl 7 (by decide) (va_Nw.use rfl (hN (.fieldLinkNest RX1 93 "MoverHall$Sector" "ceiling" "I" "MoverHall") (by decide +kernel))) (fun _ h9 => h9) rfl dX1_moveDoor_34 ?_
    refine lv_aload_n hx hb dX1_moveDoor_37 rfl (lv_at hl 1 rfl) ?_
    refine va_getN (D := D) (ci := 0) (v := .int ((up2 S j 7 (sp_min ((S j 7) + 8) (S j 11))) j 11)) (C := RX0) (T := TX0) (N := 13) hx hb hts hinS hown hK T.1 (j + 2) (hw_at hj) rfl 11 (by decide) (va_Nw.use rfl (hN (.fieldLinkNest RX1 112 "MoverHall$Sector" "wayEnd" "I" "MoverHall") (by decide +kernel))) (fun _ h9 => h9) rfl dX1_moveDoor_38 ?_
    refine lv_icmp_ne (tgt := 50) hx hb dX1_moveDoor_41 (by decide) (fun c_41 => ?_) (fun c_41 => ?_)
    · skip
      have e9 : sp_moveDoor G S j x2 = (G, up2 S j 7 (sp_min ((S j 7) + 8) (S j 11))) := by unfold sp_moveDoor; simp only [if_neg c_5, if_neg c_41]
      exact hw_vret C T (by rw [e9]) dX1_moveDoor_50
    · skip
      refine lv_aload_n hx hb dX1_moveDoor_44 rfl (lv_at hl 1 rfl) ?_
      refine lv_bipush (v := 20) hx hb dX1_moveDoor_45 (by decide) ?_
      refine hw_Nv (As := [.int 20]) (rest := []) C T (c_S_waitFor hj) ⟨va_cnB 1 hts gX1_moveDoor_X0_waitFor_n167 rfl rfl rfl (hN (.methodLinkNest RX1 167 yX0_waitFor "MoverHall") (by decide +kernel)) (hts (.initialized RX0) (by decide +kernel)) (by decide +kernel) ⟨Nat.le_of_ble_eq_true rfl, Nat.le_of_ble_eq_true rfl⟩, hts (.instanceMethod yX0_waitFor) (by decide +kernel), hts (.selects RX0 yX0_waitFor yX0_waitFor) (by decide +kernel)⟩ (hw_isS hj) hw_ad rfl hl.1 rfl (Nat.le_of_ble_eq_true rfl) dX1_moveDoor_47 ⟨Nat.zero_le _, Nat.zero_le _⟩ (fun H locs T => ?_)
      have e9 : sp_moveDoor G S j x2 = (G, sp_waitFor (up2 S j 7 (sp_min ((S j 7) + 8) (S j 11))) j 20) := by unfold sp_moveDoor; simp only [if_neg c_5, if_pos c_41]
      exact hw_vret C T (by rw [e9]) dX1_moveDoor_50
  · skip
    refine lv_aload_n hx hb dX1_moveDoor_8 rfl (lv_at hl 0 rfl) ?_
    refine lv_aload_n hx hb dX1_moveDoor_9 rfl (lv_at hl 1 rfl) ?_
    refine lv_iload_n hx hb dX1_moveDoor_10 rfl (lv_at hl 2 rfl) ?_
    refine hw_Vv (As := [.ref (ad j), .int x2]) (rest := []) C T (c_H_closeDoor hj) (cwV 2 hts gX1_moveDoor_X1_closeDoor rfl rfl rfl (by decide +kernel) ⟨Nat.le_of_ble_eq_true rfl, Nat.le_of_ble_eq_true rfl⟩) hw_isH hw_ad rfl hl.1 rfl (Nat.le_of_ble_eq_true rfl) dX1_moveDoor_11 ⟨Nat.zero_le _, Nat.zero_le _⟩ (fun H locs T => ?_)
    have e9 : sp_moveDoor G S j x2 = ((sp_closeDoor G S j x2).1, (sp_closeDoor G S j x2).2) := by unfold sp_moveDoor; simp only [if_pos c_5]
    exact hw_vret C T (by rw [e9]) dX1_moveDoor_14
/-- moveLift, its picture -/
def sp_moveLift (G : Nat → Int32) (S : Nat → Nat → Int32) (j : Nat) (x2 : Int32) : (Nat → Int32) × (Nat → Nat → Int32) := if (S j 9) = 1 then ((sp_raiseFloor G S j 4 (S j 12) x2).1, (sp_raiseFloor G S j 4 (S j 12) x2).2) else (if ((up2 S j 6 (sp_max ((S j 6) - 4) (S j 11))) j 6) = ((up2 S j 6 (sp_max ((S j 6) - 4) (S j 11))) j 11) then (G, sp_waitFor (up2 S j 6 (sp_max ((S j 6) - 4) (S j 11))) j 30) else (G, up2 S j 6 (sp_max ((S j 6) - 4) (S j 11))))
theorem sp_moveLift_0 {G : Nat → Int32} {S : Nat → Nat → Int32} {j : Nat} {x2 : Int32} : (sp_moveLift G S j x2).1 0 = G 0 := by
  unfold sp_moveLift
  repeat' split
  all_goals first | rfl | exact sp_raiseFloor_0
set_option maxHeartbeats 4000000 in
set_option maxRecDepth 100000 in
theorem c_H_moveLift {j : Nat} {x2 : Int32} (hj : j < 32) : MV l D ((cA, .object RX0) :: tz) yX1_moveLift wsX1_moveLift { frames := 3, cells := 0, slots := 0, locals := 66 } [.ref h, .ref (ad j), .int x2] (hw_W h a ad cA G S) (hw_W h a ad cA (sp_moveLift G S j x2).1 (sp_moveLift G S j x2).2) := by
  refine MV.start (cc := cX1_moveLift) (maxL := 3) (by decide) rfl (Nat.le_of_ble_eq_true rfl) (fun p e s m args below meth c A ls C T hl => ?_)
  have hx := C.1.1
  have hb := C.1.2.1
  have hml := C.1.2.2.1
  have hown : s.vm.findClass RX1 = some m.cls := C.1.2.2.2.1
  have hts := C.1.2.2.2.2
  have hK := C.2.2.2.1
  have hN := C.2.2.2.2.1
  have hinS : ∀ w ∈ wsX00, w ∈ wsX1_moveLift := by decide +kernel
  have hl : lv_has ls 3 [(0, .ref h), (1, .ref (ad j)), (2, .int x2)] := hl
  refine lv_aload_n hx hb dX1_moveLift_0 rfl (lv_at hl 1 rfl) ?_
  refine va_getN (D := D) (ci := 0) (v := .int (S j 9)) (C := RX0) (T := TX0) (N := 13) hx hb hts hinS hown hK T.1 (j + 2) (hw_at hj) rfl 9 (by decide) (va_Nw.use rfl (hN (.fieldLinkNest RX1 74 "MoverHall$Sector" "way" "I" "MoverHall") (by decide +kernel))) (fun _ h9 => h9) rfl dX1_moveLift_1 ?_
  refine lv_iconst (v := 1) hx hb dX1_moveLift_4 (by decide) ?_
  refine lv_icmp_ne (tgt := 20) hx hb dX1_moveLift_5 (by decide) (fun c_5 => ?_) (fun c_5 => ?_)
  · skip
    refine lv_aload_n hx hb dX1_moveLift_20 rfl (lv_at hl 1 rfl) ?_
    refine lv_aload_n hx hb dX1_moveLift_21 rfl (lv_at hl 1 rfl) ?_
    refine va_getN (D := D) (ci := 0) (v := .int (S j 6)) (C := RX0) (T := TX0) (N := 13) hx hb hts hinS hown hK T.1 (j + 2) (hw_at hj) rfl 6 (by decide) (va_Nw.use rfl (hN (.fieldLinkNest RX1 90 "MoverHall$Sector" "floor" "I" "MoverHall") (by decide +kernel))) (fun _ h9 => h9) rfl dX1_moveLift_22 ?_
    refine lv_iconst (v := 4) hx hb dX1_moveLift_25 (by decide) ?_
    refine lv_isub hx hb dX1_moveLift_26 ?_
    refine lv_aload_n hx hb dX1_moveLift_27 rfl (lv_at hl 1 rfl) ?_
    refine va_getN (D := D) (ci := 0) (v := .int (S j 11)) (C := RX0) (T := TX0) (N := 13) hx hb hts hinS hown hK T.1 (j + 2) (hw_at hj) rfl 11 (by decide) (va_Nw.use rfl (hN (.fieldLinkNest RX1 112 "MoverHall$Sector" "wayEnd" "I" "MoverHall") (by decide +kernel))) (fun _ h9 => h9) rfl dX1_moveLift_28 ?_
    refine va_mmax hx hb (by rw [hml, hl.1]) hown (hts (.methodLink RX1 124 Lib.Math.max.name) (by decide +kernel)) (hts (.static Lib.Math.max.name) (by decide +kernel)) (hts (.initialized "java/lang/Math") (by decide +kernel)) (hts (.code Lib.Math.max.name Lib.Math.max.code 2 (some .int)) (by decide +kernel)) (Nat.le_of_ble_eq_true rfl) (Nat.le_of_ble_eq_true rfl) (Nat.zero_le _) (Nat.zero_le _) dX1_moveLift_31 ?_
    refine W.eq (g2 := F0 m 34 ls [.int (sp_max ((S j 6) - 4) (S j 11)), .ref (ad j)]) rfl ?_
    refine va_putN (D := D) (ci := 0) (v := .int (sp_max ((S j 6) - 4) (S j 11))) (ty := .int) (C := RX0) (T := TX0) (N := 13) hx hb hts hinS tyX0 tyX0_ok nmX0 hown hK T.1 T.2.1 T.2.2 (j + 2) (hw_at hj) rfl 6 (by decide) (va_Nw.use rfl (hN (.fieldLinkNest RX1 90 "MoverHall$Sector" "floor" "I" "MoverHall") (by decide +kernel))) (fun _ h9 => h9) rfl (by decide +kernel) rfl rfl (Nat.le_of_ble_eq_true rfl) dX1_moveLift_34 (fun H locs hP hD hS => ?_)
    have T := hw_setS (k := 6) (v := sp_max ((S j 6) - 4) (S j 11)) hj rfl ⟨hP, hD, hS⟩
    refine lv_aload_n hx hb dX1_moveLift_37 rfl (lv_at hl 1 rfl) ?_
    refine va_getN (D := D) (ci := 0) (v := .int ((up2 S j 6 (sp_max ((S j 6) - 4) (S j 11))) j 6)) (C := RX0) (T := TX0) (N := 13) hx hb hts hinS hown hK T.1 (j + 2) (hw_at hj) rfl 6 (by decide) (va_Nw.use rfl (hN (.fieldLinkNest RX1 90 "MoverHall$Sector" "floor" "I" "MoverHall") (by decide +kernel))) (fun _ h9 => h9) rfl dX1_moveLift_38 ?_
    refine lv_aload_n hx hb dX1_moveLift_41 rfl (lv_at hl 1 rfl) ?_
    refine va_getN (D := D) (ci := 0) (v := .int ((up2 S j 6 (sp_max ((S j 6) - 4) (S j 11))) j 11)) (C := RX0) (T := TX0) (N := 13) hx hb hts hinS hown hK T.1 (j + 2) (hw_at hj) rfl 11 (by decide) (va_Nw.use rfl (hN (.fieldLinkNest RX1 112 "MoverHall$Sector" "wayEnd" "I" "MoverHall") (by decide +kernel))) (fun _ h9 => h9) rfl dX1_moveLift_42 ?_
    refine lv_icmp_ne (tgt := 54) hx hb dX1_moveLift_45 (by decide) (fun c_45 => ?_) (fun c_45 => ?_)
    · skip
      have e9 : sp_moveLift G S j x2 = (G, up2 S j 6 (sp_max ((S j 6) - 4) (S j 11))) := by unfold sp_moveLift; simp only [if_neg c_5, if_neg c_45]
      exact hw_vret C T (by rw [e9]) dX1_moveLift_54
    · skip
      refine lv_aload_n hx hb dX1_moveLift_48 rfl (lv_at hl 1 rfl) ?_
      refine lv_bipush (v := 30) hx hb dX1_moveLift_49 (by decide) ?_
      refine hw_Nv (As := [.int 30]) (rest := []) C T (c_S_waitFor hj) ⟨va_cnB 1 hts gX1_moveLift_X0_waitFor_n167 rfl rfl rfl (hN (.methodLinkNest RX1 167 yX0_waitFor "MoverHall") (by decide +kernel)) (hts (.initialized RX0) (by decide +kernel)) (by decide +kernel) ⟨Nat.le_of_ble_eq_true rfl, Nat.le_of_ble_eq_true rfl⟩, hts (.instanceMethod yX0_waitFor) (by decide +kernel), hts (.selects RX0 yX0_waitFor yX0_waitFor) (by decide +kernel)⟩ (hw_isS hj) hw_ad rfl hl.1 rfl (Nat.le_of_ble_eq_true rfl) dX1_moveLift_51 ⟨Nat.zero_le _, Nat.zero_le _⟩ (fun H locs T => ?_)
      have e9 : sp_moveLift G S j x2 = (G, sp_waitFor (up2 S j 6 (sp_max ((S j 6) - 4) (S j 11))) j 30) := by unfold sp_moveLift; simp only [if_neg c_5, if_pos c_45]
      exact hw_vret C T (by rw [e9]) dX1_moveLift_54
  · skip
    refine lv_aload_n hx hb dX1_moveLift_8 rfl (lv_at hl 0 rfl) ?_
    refine lv_aload_n hx hb dX1_moveLift_9 rfl (lv_at hl 1 rfl) ?_
    refine lv_iconst (v := 4) hx hb dX1_moveLift_10 (by decide) ?_
    refine lv_aload_n hx hb dX1_moveLift_11 rfl (lv_at hl 1 rfl) ?_
    refine va_getN (D := D) (ci := 0) (v := .int (S j 12)) (C := RX0) (T := TX0) (N := 13) hx hb hts hinS hown hK T.1 (j + 2) (hw_at hj) rfl 12 (by decide) (va_Nw.use rfl (hN (.fieldLinkNest RX1 137 "MoverHall$Sector" "startFloor" "I" "MoverHall") (by decide +kernel))) (fun _ h9 => h9) rfl dX1_moveLift_12 ?_
    refine lv_iload_n hx hb dX1_moveLift_15 rfl (lv_at hl 2 rfl) ?_
    refine hw_Vv (As := [.ref (ad j), .int 4, .int (S j 12), .int x2]) (rest := []) C T (c_H_raiseFloor hj) (cwV 4 hts gX1_moveLift_X1_raiseFloor rfl rfl rfl (by decide +kernel) ⟨Nat.le_of_ble_eq_true rfl, Nat.le_of_ble_eq_true rfl⟩) hw_isH hw_ad rfl hl.1 rfl (Nat.le_of_ble_eq_true rfl) dX1_moveLift_16 ⟨Nat.zero_le _, Nat.zero_le _⟩ (fun H locs T => ?_)
    have e9 : sp_moveLift G S j x2 = ((sp_raiseFloor G S j 4 (S j 12) x2).1, (sp_raiseFloor G S j 4 (S j 12) x2).2) := by unfold sp_moveLift; simp only [if_pos c_5]
    exact hw_vret C T (by rw [e9]) dX1_moveLift_19
/-- move, its picture -/
def sp_move (G : Nat → Int32) (S : Nat → Nat → Int32) (j : Nat) (x2 : Int32) : (Nat → Int32) × (Nat → Nat → Int32) := if (S j 8) = (-1) then (G, S) else (if (S j 10) ≤ 0 then (if (S j 8) = 0 then ((sp_moveDoor G S j x2).1, (sp_moveDoor G S j x2).2) else (if (S j 8) = 1 then ((sp_moveLift G S j x2).1, (sp_moveLift G S j x2).2) else ((sp_raiseFloor G S j 2 (S j 11) x2).1, (sp_raiseFloor G S j 2 (S j 11) x2).2))) else (G, sp_waitOneTick S j))
theorem sp_move_0 {G : Nat → Int32} {S : Nat → Nat → Int32} {j : Nat} {x2 : Int32} : (sp_move G S j x2).1 0 = G 0 := by
  unfold sp_move
  repeat' split
  all_goals first | rfl | exact sp_moveDoor_0 | exact sp_moveLift_0 | exact sp_raiseFloor_0
theorem sp_move_n {G : Nat → Int32} {S : Nat → Nat → Int32} {j : Nat} {x2 : Int32} {n : Nat} (h : hg_n G n) : hg_n (sp_move G S j x2).1 n := ⟨h.1, by rw [sp_move_0]; exact h.2⟩
set_option maxHeartbeats 4000000 in
set_option maxRecDepth 100000 in
theorem c_H_move {j : Nat} {x2 : Int32} (hj : j < 32) : MV l D ((cA, .object RX0) :: tz) yX1_move wsX1_move { frames := 4, cells := 0, slots := 0, locals := 88 } [.ref h, .ref (ad j), .int x2] (hw_W h a ad cA G S) (hw_W h a ad cA (sp_move G S j x2).1 (sp_move G S j x2).2) := by
  refine MV.start (cc := cX1_move) (maxL := 3) (by decide) rfl (Nat.le_of_ble_eq_true rfl) (fun p e s m args below meth c A ls C T hl => ?_)
  have hx := C.1.1
  have hb := C.1.2.1
  have hml := C.1.2.2.1
  have hown : s.vm.findClass RX1 = some m.cls := C.1.2.2.2.1
  have hts := C.1.2.2.2.2
  have hK := C.2.2.2.1
  have hN := C.2.2.2.2.1
  have hinS : ∀ w ∈ wsX00, w ∈ wsX1_move := by decide +kernel
  have hl : lv_has ls 3 [(0, .ref h), (1, .ref (ad j)), (2, .int x2)] := hl
  refine lv_aload_n hx hb dX1_move_0 rfl (lv_at hl 1 rfl) ?_
  refine va_getN (D := D) (ci := 0) (v := .int (S j 8)) (C := RX0) (T := TX0) (N := 13) hx hb hts hinS hown hK T.1 (j + 2) (hw_at hj) rfl 8 (by decide) (va_Nw.use rfl (hN (.fieldLinkNest RX1 67 "MoverHall$Sector" "mover" "I" "MoverHall") (by decide +kernel))) (fun _ h9 => h9) rfl dX1_move_1 ?_
  refine lv_iconst (v := (-1)) hx hb dX1_move_4 (by decide) ?_
  refine lv_icmp_ne (tgt := 9) hx hb dX1_move_5 (by decide) (fun c_5 => ?_) (fun c_5 => ?_)
  · skip
    refine lv_aload_n hx hb dX1_move_9 rfl (lv_at hl 1 rfl) ?_
    refine va_getN (D := D) (ci := 0) (v := .int (S j 10)) (C := RX0) (T := TX0) (N := 13) hx hb hts hinS hown hK T.1 (j + 2) (hw_at hj) rfl 10 (by decide) (va_Nw.use rfl (hN (.fieldLinkNest RX1 100 "MoverHall$Sector" "waitLeft" "I" "MoverHall") (by decide +kernel))) (fun _ h9 => h9) rfl dX1_move_10 ?_
    refine lv_if_le (tgt := 21) hx hb dX1_move_13 (by decide) (fun c_13 => ?_) (fun c_13 => ?_)
    · skip
      refine lv_aload_n hx hb dX1_move_21 rfl (lv_at hl 1 rfl) ?_
      refine va_getN (D := D) (ci := 0) (v := .int (S j 8)) (C := RX0) (T := TX0) (N := 13) hx hb hts hinS hown hK T.1 (j + 2) (hw_at hj) rfl 8 (by decide) (va_Nw.use rfl (hN (.fieldLinkNest RX1 67 "MoverHall$Sector" "mover" "I" "MoverHall") (by decide +kernel))) (fun _ h9 => h9) rfl dX1_move_22 ?_
      by_cases c_25_0 : (S j 8) = 0
      · skip
        refine lv_lookup (off := 27) (tgt := 52) hx hb dX1_move_25 (by decide) (by rw [c_25_0]; decide +kernel) (by decide) ?_
        refine lv_aload_n hx hb dX1_move_52 rfl (lv_at hl 0 rfl) ?_
        refine lv_aload_n hx hb dX1_move_53 rfl (lv_at hl 1 rfl) ?_
        refine lv_iload_n hx hb dX1_move_54 rfl (lv_at hl 2 rfl) ?_
        refine hw_Vv (As := [.ref (ad j), .int x2]) (rest := []) C T (c_H_moveDoor hj) (cwV 2 hts gX1_move_X1_moveDoor rfl rfl rfl (by decide +kernel) ⟨Nat.le_of_ble_eq_true rfl, Nat.le_of_ble_eq_true rfl⟩) hw_isH hw_ad rfl hl.1 rfl (Nat.le_of_ble_eq_true rfl) dX1_move_55 ⟨Nat.zero_le _, Nat.zero_le _⟩ (fun H locs T => ?_)
        refine lv_goto (tgt := 81) hx hb dX1_move_58 (by decide) ?_
        have e9 : sp_move G S j x2 = ((sp_moveDoor G S j x2).1, (sp_moveDoor G S j x2).2) := by unfold sp_move; simp only [if_neg c_5, if_pos c_13, if_pos c_25_0]
        exact hw_vret C T (by rw [e9]) dX1_move_81
      · skip
        by_cases c_25_1 : (S j 8) = 1
        · skip
          refine lv_lookup (off := 36) (tgt := 61) hx hb dX1_move_25 (by decide) (by rw [c_25_1]; decide +kernel) (by decide) ?_
          refine lv_aload_n hx hb dX1_move_61 rfl (lv_at hl 0 rfl) ?_
          refine lv_aload_n hx hb dX1_move_62 rfl (lv_at hl 1 rfl) ?_
          refine lv_iload_n hx hb dX1_move_63 rfl (lv_at hl 2 rfl) ?_
          refine hw_Vv (As := [.ref (ad j), .int x2]) (rest := []) C T (c_H_moveLift hj) (cwV 2 hts gX1_move_X1_moveLift rfl rfl rfl (by decide +kernel) ⟨Nat.le_of_ble_eq_true rfl, Nat.le_of_ble_eq_true rfl⟩) hw_isH hw_ad rfl hl.1 rfl (Nat.le_of_ble_eq_true rfl) dX1_move_64 ⟨Nat.zero_le _, Nat.zero_le _⟩ (fun H locs T => ?_)
          refine lv_goto (tgt := 81) hx hb dX1_move_67 (by decide) ?_
          have e9 : sp_move G S j x2 = ((sp_moveLift G S j x2).1, (sp_moveLift G S j x2).2) := by unfold sp_move; simp only [if_neg c_5, if_pos c_13, if_neg c_25_0, if_pos c_25_1]
          exact hw_vret C T (by rw [e9]) dX1_move_81
        · skip
          refine lv_lookup (off := 45) (tgt := 70) hx hb dX1_move_25 (by decide) (by show Op.lookupswitch.offset [(0, 27), (1, 36)] 45 _ = _; rw [lv_osw c_25_0 (by decide), lv_osw c_25_1 (by decide)]; rfl) (by decide) ?_
          refine lv_aload_n hx hb dX1_move_70 rfl (lv_at hl 0 rfl) ?_
          refine lv_aload_n hx hb dX1_move_71 rfl (lv_at hl 1 rfl) ?_
          refine lv_iconst (v := 2) hx hb dX1_move_72 (by decide) ?_
          refine lv_aload_n hx hb dX1_move_73 rfl (lv_at hl 1 rfl) ?_
          refine va_getN (D := D) (ci := 0) (v := .int (S j 11)) (C := RX0) (T := TX0) (N := 13) hx hb hts hinS hown hK T.1 (j + 2) (hw_at hj) rfl 11 (by decide) (va_Nw.use rfl (hN (.fieldLinkNest RX1 112 "MoverHall$Sector" "wayEnd" "I" "MoverHall") (by decide +kernel))) (fun _ h9 => h9) rfl dX1_move_74 ?_
          refine lv_iload_n hx hb dX1_move_77 rfl (lv_at hl 2 rfl) ?_
          refine hw_Vv (As := [.ref (ad j), .int 2, .int (S j 11), .int x2]) (rest := []) C T (c_H_raiseFloor hj) (cwV 4 hts gX1_move_X1_raiseFloor rfl rfl rfl (by decide +kernel) ⟨Nat.le_of_ble_eq_true rfl, Nat.le_of_ble_eq_true rfl⟩) hw_isH hw_ad rfl hl.1 rfl (Nat.le_of_ble_eq_true rfl) dX1_move_78 ⟨Nat.zero_le _, Nat.zero_le _⟩ (fun H locs T => ?_)
          have e9 : sp_move G S j x2 = ((sp_raiseFloor G S j 2 (S j 11) x2).1, (sp_raiseFloor G S j 2 (S j 11) x2).2) := by unfold sp_move; simp only [if_neg c_5, if_pos c_13, if_neg c_25_0, if_neg c_25_1]
          exact hw_vret C T (by rw [e9]) dX1_move_81
    · skip
      refine lv_aload_n hx hb dX1_move_16 rfl (lv_at hl 1 rfl) ?_
      refine hw_Nv (As := []) (rest := []) C T (c_S_waitOneTick hj) ⟨va_cnB 0 hts gX1_move_X0_waitOneTick_n151 rfl rfl rfl (hN (.methodLinkNest RX1 151 yX0_waitOneTick "MoverHall") (by decide +kernel)) (hts (.initialized RX0) (by decide +kernel)) (by decide +kernel) ⟨Nat.le_of_ble_eq_true rfl, Nat.le_of_ble_eq_true rfl⟩, hts (.instanceMethod yX0_waitOneTick) (by decide +kernel), hts (.selects RX0 yX0_waitOneTick yX0_waitOneTick) (by decide +kernel)⟩ (hw_isS hj) hw_ad rfl hl.1 rfl (Nat.le_of_ble_eq_true rfl) dX1_move_17 ⟨Nat.zero_le _, Nat.zero_le _⟩ (fun H locs T => ?_)
      have e9 : sp_move G S j x2 = (G, sp_waitOneTick S j) := by unfold sp_move; simp only [if_neg c_5, if_neg c_13]
      exact hw_vret C T (by rw [e9]) dX1_move_20
  · skip
    have e9 : sp_move G S j x2 = (G, S) := by unfold sp_move; simp only [if_pos c_5]
    exact hw_vret C T (by rw [e9]) dX1_move_8
end
