section
variable {l : Launch} {D : va_G} {h a : Nat} {ad : Nat → Nat} {cA : ClassId} {tz : List (ClassId × FieldType)} {G : Nat → Int32} {S : Nat → Nat → Int32} {n : Nat}
/-- isWithin, its picture -/
def sp_isWithin (x0 : Int32) (x1 : Int32) (x2 : Int32) : Int32 := if x0 < x1 then 0 else (if x2 < x0 then 0 else 1)
theorem sp_isWithin_z (x0 x1 x2 : Int32) : narrow .boolean (.int (sp_isWithin x0 x1 x2)) = .int (sp_isWithin x0 x1 x2) := by
  unfold sp_isWithin
  split
  · rfl
  · split <;> rfl
theorem sx_ticks {x : Int32} (c : ¬ sp_isWithin x 0 1000 = 0) : ∃ N : Nat, N ≤ 1000 ∧ x = nI N := by
  unfold sp_isWithin at c
  by_cases h0 : x < 0
  · simp [h0] at c
  · by_cases h1 : 1000 < x
    · simp [h1] at c
    · exact nI_of2 (M := 1000) (by decide) h0 (Int32.not_lt.mp h1)
set_option maxHeartbeats 4000000 in
set_option maxRecDepth 100000 in
theorem c_H_isWithin {x0 : Int32} {x1 : Int32} {x2 : Int32}  : MI l D ((cA, .object RX0) :: tz) yX1_isWithin wsX1_isWithin { frames := 0, cells := 0, slots := 0, locals := 0 } [.int x0, .int x1, .int x2] (hw_W h a ad cA G S) (sp_isWithin x0 x1 x2) (hw_W h a ad cA G S) := by
  refine MI.start (cc := cX1_isWithin) (maxL := 3) (by decide) rfl (Nat.le_of_ble_eq_true rfl) (fun p e s m args below meth c A ls C T hl => ?_)
  have hx := C.1.1
  have hb := C.1.2.1
  have hml := C.1.2.2.1
  have hown : s.vm.findClass RX1 = some m.cls := C.1.2.2.2.1
  have hts := C.1.2.2.2.2
  have hK := C.2.2.2.1
  have hl : lv_has ls 3 [(0, .int x0), (1, .int x1), (2, .int x2)] := hl
  refine lv_iload_n hx hb dX1_isWithin_0 rfl (lv_at hl 0 rfl) ?_
  refine lv_iload_n hx hb dX1_isWithin_1 rfl (lv_at hl 1 rfl) ?_
  refine lv_icmp_lt (tgt := 14) hx hb dX1_isWithin_2 (by decide) (fun c_2 => ?_) (fun c_2 => ?_)
  · skip
    refine lv_iconst (v := 0) hx hb dX1_isWithin_14 (by decide) ?_
    have e9 : sp_isWithin x0 x1 x2 = 0 := by unfold sp_isWithin; simp only [if_pos c_2]
    exact hw_iret C T (by decide) e9.symm rfl dX1_isWithin_15
  · skip
    refine lv_iload_n hx hb dX1_isWithin_5 rfl (lv_at hl 0 rfl) ?_
    refine lv_iload_n hx hb dX1_isWithin_6 rfl (lv_at hl 2 rfl) ?_
    refine lv_icmp_gt (tgt := 14) hx hb dX1_isWithin_7 (by decide) (fun c_7 => ?_) (fun c_7 => ?_)
    · skip
      refine lv_iconst (v := 0) hx hb dX1_isWithin_14 (by decide) ?_
      have e9 : sp_isWithin x0 x1 x2 = 0 := by unfold sp_isWithin; simp only [if_neg c_2, if_pos c_7]
      exact hw_iret C T (by decide) e9.symm rfl dX1_isWithin_15
    · skip
      refine lv_iconst (v := 1) hx hb dX1_isWithin_10 (by decide) ?_
      refine lv_goto (tgt := 15) hx hb dX1_isWithin_11 (by decide) ?_
      have e9 : sp_isWithin x0 x1 x2 = 1 := by unfold sp_isWithin; simp only [if_neg c_2, if_neg c_7]
      exact hw_iret C T (by decide) e9.symm rfl dX1_isWithin_15
/-- isShape, its picture -/
def sp_isShape (x0 : Int32) (x1 : Int32) : Int32 := if x0 < (-1024) then 0 else (if x1 ≤ x0 then 0 else (if 1024 < x1 then 0 else 1))
set_option maxHeartbeats 4000000 in
set_option maxRecDepth 100000 in
theorem c_H_isShape {x0 : Int32} {x1 : Int32}  : MI l D ((cA, .object RX0) :: tz) yX1_isShape wsX1_isShape { frames := 0, cells := 0, slots := 0, locals := 0 } [.int x0, .int x1] (hw_W h a ad cA G S) (sp_isShape x0 x1) (hw_W h a ad cA G S) := by
  refine MI.start (cc := cX1_isShape) (maxL := 2) (by decide) rfl (Nat.le_of_ble_eq_true rfl) (fun p e s m args below meth c A ls C T hl => ?_)
  have hx := C.1.1
  have hb := C.1.2.1
  have hml := C.1.2.2.1
  have hown : s.vm.findClass RX1 = some m.cls := C.1.2.2.2.1
  have hts := C.1.2.2.2.2
  have hK := C.2.2.2.1
  have hl : lv_has ls 2 [(0, .int x0), (1, .int x1)] := hl
  refine lv_iload_n hx hb dX1_isShape_0 rfl (lv_at hl 0 rfl) ?_
  refine lv_sipush (v := (-1024)) hx hb dX1_isShape_1 (by decide) ?_
  refine lv_icmp_lt (tgt := 23) hx hb dX1_isShape_4 (by decide) (fun c_4 => ?_) (fun c_4 => ?_)
  · skip
    refine lv_iconst (v := 0) hx hb dX1_isShape_23 (by decide) ?_
    have e9 : sp_isShape x0 x1 = 0 := by unfold sp_isShape; simp only [if_pos c_4]
    exact hw_iret C T (by decide) e9.symm rfl dX1_isShape_24
  · skip
    refine lv_iload_n hx hb dX1_isShape_7 rfl (lv_at hl 0 rfl) ?_
    refine lv_iload_n hx hb dX1_isShape_8 rfl (lv_at hl 1 rfl) ?_
    refine lv_icmp_ge (tgt := 23) hx hb dX1_isShape_9 (by decide) (fun c_9 => ?_) (fun c_9 => ?_)
    · skip
      refine lv_iconst (v := 0) hx hb dX1_isShape_23 (by decide) ?_
      have e9 : sp_isShape x0 x1 = 0 := by unfold sp_isShape; simp only [if_neg c_4, if_pos c_9]
      exact hw_iret C T (by decide) e9.symm rfl dX1_isShape_24
    · skip
      refine lv_iload_n hx hb dX1_isShape_12 rfl (lv_at hl 1 rfl) ?_
      refine lv_sipush (v := 1024) hx hb dX1_isShape_13 (by decide) ?_
      refine lv_icmp_gt (tgt := 23) hx hb dX1_isShape_16 (by decide) (fun c_16 => ?_) (fun c_16 => ?_)
      · skip
        refine lv_iconst (v := 0) hx hb dX1_isShape_23 (by decide) ?_
        have e9 : sp_isShape x0 x1 = 0 := by unfold sp_isShape; simp only [if_neg c_4, if_neg c_9, if_pos c_16]
        exact hw_iret C T (by decide) e9.symm rfl dX1_isShape_24
      · skip
        refine lv_iconst (v := 1) hx hb dX1_isShape_19 (by decide) ?_
        refine lv_goto (tgt := 24) hx hb dX1_isShape_20 (by decide) ?_
        have e9 : sp_isShape x0 x1 = 1 := by unfold sp_isShape; simp only [if_neg c_4, if_neg c_9, if_neg c_16]
        exact hw_iret C T (by decide) e9.symm rfl dX1_isShape_24
/-- isMover, its picture -/
def sp_isMover (x0 : Int32) : Int32 := sp_isWithin x0 0 2
set_option maxHeartbeats 4000000 in
set_option maxRecDepth 100000 in
theorem c_H_isMover {x0 : Int32}  : MI l D ((cA, .object RX0) :: tz) yX1_isMover wsX1_isMover { frames := 1, cells := 0, slots := 0, locals := 22 } [.int x0] (hw_W h a ad cA G S) (sp_isMover x0) (hw_W h a ad cA G S) := by
  refine MI.start (cc := cX1_isMover) (maxL := 1) (by decide) rfl (Nat.le_of_ble_eq_true rfl) (fun p e s m args below meth c A ls C T hl => ?_)
  have hx := C.1.1
  have hb := C.1.2.1
  have hml := C.1.2.2.1
  have hown : s.vm.findClass RX1 = some m.cls := C.1.2.2.2.1
  have hts := C.1.2.2.2.2
  have hK := C.2.2.2.1
  have hl : lv_has ls 1 [(0, .int x0)] := hl
  refine lv_iload_n hx hb dX1_isMover_0 rfl (lv_at hl 0 rfl) ?_
  refine lv_iconst (v := 0) hx hb dX1_isMover_1 (by decide) ?_
  refine lv_iconst (v := 2) hx hb dX1_isMover_2 (by decide) ?_
  refine hw_Si (As := [.int x0, .int 0, .int 2]) (rest := []) C T (c_H_isWithin) (va_cwS 3 hts gX1_isMover_X1_isWithin rfl rfl rfl (by decide +kernel) ⟨Nat.le_of_ble_eq_true rfl, Nat.le_of_ble_eq_true rfl⟩) hw_ad rfl hl.1 rfl (Nat.le_of_ble_eq_true rfl) dX1_isMover_3 ⟨Nat.zero_le _, Nat.zero_le _⟩ (fun H locs T => ?_)
  have e9 : sp_isMover x0 = sp_isWithin x0 0 2 := by rfl
  exact hw_iret C T (sp_isWithin_z _ _ _) e9.symm rfl dX1_isMover_6
/-- isSector, its picture -/
def sp_isSector (G : Nat → Int32) (x1 : Int32) : Int32 := if x1 < 0 then 0 else (if (G 0) ≤ x1 then 0 else 1)
theorem sx_n {G : Nat → Int32} {n : Nat} {x : Int32} (h : hg_n G n) (c : ¬ sp_isSector G x = 0) : ∃ j : Nat, j < n ∧ x = nI j := by
  unfold sp_isSector at c
  by_cases h0 : x < 0
  · simp [h0] at c
  · by_cases h1 : G 0 ≤ x
    · simp [h1] at c
    · obtain ⟨j, hj, rfl⟩ := nI_of h0
      refine ⟨j, ?_, rfl⟩
      rcases Nat.lt_or_ge j n with h2 | h2
      · exact h2
      · exact absurd (by rw [h.2]; exact nI_le h2 hj) h1
theorem sx_in {G : Nat → Int32} {n : Nat} {x : Int32} (h : hg_n G n) (c : ¬ sp_isSector G x = 0) : vp_in x 32 := by
  obtain ⟨j, hj, rfl⟩ := sx_n h c
  exact vp_in_nI (Nat.lt_of_lt_of_le hj h.1) (by decide)
set_option maxHeartbeats 4000000 in
set_option maxRecDepth 100000 in
theorem c_H_isSector {x1 : Int32}  : MI l D ((cA, .object RX0) :: tz) yX1_isSector wsX1_isSector { frames := 0, cells := 0, slots := 0, locals := 0 } [.ref h, .int x1] (hw_W h a ad cA G S) (sp_isSector G x1) (hw_W h a ad cA G S) := by
  refine MI.start (cc := cX1_isSector) (maxL := 2) (by decide) rfl (Nat.le_of_ble_eq_true rfl) (fun p e s m args below meth c A ls C T hl => ?_)
  have hx := C.1.1
  have hb := C.1.2.1
  have hml := C.1.2.2.1
  have hown : s.vm.findClass RX1 = some m.cls := C.1.2.2.2.1
  have hts := C.1.2.2.2.2
  have hK := C.2.2.2.1
  have hinH : ∀ w ∈ wsX10, w ∈ wsX1_isSector := by decide +kernel
  have hl : lv_has ls 2 [(0, .ref h), (1, .int x1)] := hl
  refine lv_iload_n hx hb dX1_isSector_0 rfl (lv_at hl 1 rfl) ?_
  refine lv_if_lt (tgt := 16) hx hb dX1_isSector_1 (by decide) (fun c_1 => ?_) (fun c_1 => ?_)
  · skip
    refine lv_iconst (v := 0) hx hb dX1_isSector_16 (by decide) ?_
    have e9 : sp_isSector G x1 = 0 := by unfold sp_isSector; simp only [if_pos c_1]
    exact hw_iret C T (by decide) e9.symm rfl dX1_isSector_17
  · skip
    refine lv_iload_n hx hb dX1_isSector_4 rfl (lv_at hl 1 rfl) ?_
    refine lv_aload_n hx hb dX1_isSector_5 rfl (lv_at hl 0 rfl) ?_
    refine va_get (D := D) (ci := 1) (v := .int (G 0)) (C := RX1) (T := TX1) (N := 7) hx hb hts hinH hown hK T.1 0 rfl rfl 1 (by decide) (hts (.fieldLink RX1 20 "MoverHall" "sectorCount" "I") (by decide +kernel)) (fun _ h9 => h9) rfl dX1_isSector_6 ?_
    refine lv_icmp_ge (tgt := 16) hx hb dX1_isSector_9 (by decide) (fun c_9 => ?_) (fun c_9 => ?_)
    · skip
      refine lv_iconst (v := 0) hx hb dX1_isSector_16 (by decide) ?_
      have e9 : sp_isSector G x1 = 0 := by unfold sp_isSector; simp only [if_neg c_1, if_pos c_9]
      exact hw_iret C T (by decide) e9.symm rfl dX1_isSector_17
    · skip
      refine lv_iconst (v := 1) hx hb dX1_isSector_12 (by decide) ?_
      refine lv_goto (tgt := 17) hx hb dX1_isSector_13 (by decide) ?_
      have e9 : sp_isSector G x1 = 1 := by unfold sp_isSector; simp only [if_neg c_1, if_neg c_9]
      exact hw_iret C T (by decide) e9.symm rfl dX1_isSector_17
/-- look, its picture -/
def sp_look (G : Nat → Int32) (x1 : Int32) : Int32 := if x1 = 0 then (G 0) else (if x1 = 1 then (G 1) else (if x1 = 2 then (G 2) else (if x1 = 3 then (G 3) else (if x1 = 4 then (G 5) else (if x1 = 5 then (G 4) else (-1))))))
set_option maxHeartbeats 4000000 in
set_option maxRecDepth 100000 in
theorem c_H_look {x1 : Int32}  : MI l D ((cA, .object RX0) :: tz) yX1_look wsX1_look { frames := 0, cells := 0, slots := 0, locals := 0 } [.ref h, .int x1] (hw_W h a ad cA G S) (sp_look G x1) (hw_W h a ad cA G S) := by
  refine MI.start (cc := cX1_look) (maxL := 2) (by decide) rfl (Nat.le_of_ble_eq_true rfl) (fun p e s m args below meth c A ls C T hl => ?_)
  have hx := C.1.1
  have hb := C.1.2.1
  have hml := C.1.2.2.1
  have hown : s.vm.findClass RX1 = some m.cls := C.1.2.2.2.1
  have hts := C.1.2.2.2.2
  have hK := C.2.2.2.1
  have hinH : ∀ w ∈ wsX10, w ∈ wsX1_look := by decide +kernel
  have hl : lv_has ls 2 [(0, .ref h), (1, .int x1)] := hl
  refine lv_iload_n hx hb dX1_look_0 rfl (lv_at hl 1 rfl) ?_
  by_cases c_1_0 : x1 = 0
  · skip
    refine lv_tableIn (off := 39) (tgt := 40) hx hb dX1_look_1 (by rw [c_1_0]; decide) (by rw [c_1_0]; decide) (by rw [c_1_0]; decide +kernel) (by decide) ?_
    refine lv_aload_n hx hb dX1_look_40 rfl (lv_at hl 0 rfl) ?_
    refine va_get (D := D) (ci := 1) (v := .int (G 0)) (C := RX1) (T := TX1) (N := 7) hx hb hts hinH hown hK T.1 0 rfl rfl 1 (by decide) (hts (.fieldLink RX1 20 "MoverHall" "sectorCount" "I") (by decide +kernel)) (fun _ h9 => h9) rfl dX1_look_41 ?_
    have e9 : sp_look G x1 = G 0 := by unfold sp_look; simp only [if_pos c_1_0]
    exact hw_iret C T rfl e9.symm rfl dX1_look_44
  · skip
    by_cases c_1_1 : x1 = 1
    · skip
      refine lv_tableIn (off := 44) (tgt := 45) hx hb dX1_look_1 (by rw [c_1_1]; decide) (by rw [c_1_1]; decide) (by rw [c_1_1]; decide +kernel) (by decide) ?_
      refine lv_aload_n hx hb dX1_look_45 rfl (lv_at hl 0 rfl) ?_
      refine va_get (D := D) (ci := 1) (v := .int (G 1)) (C := RX1) (T := TX1) (N := 7) hx hb hts hinH hown hK T.1 0 rfl rfl 2 (by decide) (hts (.fieldLink RX1 49 "MoverHall" "pairCount" "I") (by decide +kernel)) (fun _ h9 => h9) rfl dX1_look_46 ?_
      have e9 : sp_look G x1 = G 1 := by unfold sp_look; simp only [if_neg c_1_0, if_pos c_1_1]
      exact hw_iret C T rfl e9.symm rfl dX1_look_49
    · skip
      by_cases c_1_2 : x1 = 2
      · skip
        refine lv_tableIn (off := 49) (tgt := 50) hx hb dX1_look_1 (by rw [c_1_2]; decide) (by rw [c_1_2]; decide) (by rw [c_1_2]; decide +kernel) (by decide) ?_
        refine lv_aload_n hx hb dX1_look_50 rfl (lv_at hl 0 rfl) ?_
        refine va_get (D := D) (ci := 1) (v := .int (G 2)) (C := RX1) (T := TX1) (N := 7) hx hb hts hinH hown hK T.1 0 rfl rfl 3 (by decide) (hts (.fieldLink RX1 55 "MoverHall" "tickCount" "I") (by decide +kernel)) (fun _ h9 => h9) rfl dX1_look_51 ?_
        have e9 : sp_look G x1 = G 2 := by unfold sp_look; simp only [if_neg c_1_0, if_neg c_1_1, if_pos c_1_2]
        exact hw_iret C T rfl e9.symm rfl dX1_look_54
      · skip
        by_cases c_1_3 : x1 = 3
        · skip
          refine lv_tableIn (off := 54) (tgt := 55) hx hb dX1_look_1 (by rw [c_1_3]; decide) (by rw [c_1_3]; decide) (by rw [c_1_3]; decide +kernel) (by decide) ?_
          refine lv_aload_n hx hb dX1_look_55 rfl (lv_at hl 0 rfl) ?_
          refine va_get (D := D) (ci := 1) (v := .int (G 3)) (C := RX1) (T := TX1) (N := 7) hx hb hts hinH hown hK T.1 0 rfl rfl 4 (by decide) (hts (.fieldLink RX1 58 "MoverHall" "moverCount" "I") (by decide +kernel)) (fun _ h9 => h9) rfl dX1_look_56 ?_
          have e9 : sp_look G x1 = G 3 := by unfold sp_look; simp only [if_neg c_1_0, if_neg c_1_1, if_neg c_1_2, if_pos c_1_3]
          exact hw_iret C T rfl e9.symm rfl dX1_look_59
        · skip
          by_cases c_1_4 : x1 = 4
          · skip
            refine lv_tableIn (off := 59) (tgt := 60) hx hb dX1_look_1 (by rw [c_1_4]; decide) (by rw [c_1_4]; decide) (by rw [c_1_4]; decide +kernel) (by decide) ?_
            refine lv_aload_n hx hb dX1_look_60 rfl (lv_at hl 0 rfl) ?_
            refine va_get (D := D) (ci := 1) (v := .int (G 5)) (C := RX1) (T := TX1) (N := 7) hx hb hts hinH hown hK T.1 0 rfl rfl 6 (by decide) (hts (.fieldLink RX1 16 "MoverHall" "guestSector" "I") (by decide +kernel)) (fun _ h9 => h9) rfl dX1_look_61 ?_
            have e9 : sp_look G x1 = G 5 := by unfold sp_look; simp only [if_neg c_1_0, if_neg c_1_1, if_neg c_1_2, if_neg c_1_3, if_pos c_1_4]
            exact hw_iret C T rfl e9.symm rfl dX1_look_64
          · skip
            by_cases c_1_5 : x1 = 5
            · skip
              refine lv_tableIn (off := 64) (tgt := 65) hx hb dX1_look_1 (by rw [c_1_5]; decide) (by rw [c_1_5]; decide) (by rw [c_1_5]; decide +kernel) (by decide) ?_
              refine lv_aload_n hx hb dX1_look_65 rfl (lv_at hl 0 rfl) ?_
              refine va_get (D := D) (ci := 1) (v := .int (G 4)) (C := RX1) (T := TX1) (N := 7) hx hb hts hinH hown hK T.1 0 rfl rfl 5 (by decide) (hts (.fieldLink RX1 61 "MoverHall" "blockedCount" "I") (by decide +kernel)) (fun _ h9 => h9) rfl dX1_look_66 ?_
              have e9 : sp_look G x1 = G 4 := by unfold sp_look; simp only [if_neg c_1_0, if_neg c_1_1, if_neg c_1_2, if_neg c_1_3, if_neg c_1_4, if_pos c_1_5]
              exact hw_iret C T rfl e9.symm rfl dX1_look_69
            · skip
              refine lv_tableOut (tgt := 70) hx hb dX1_look_1 (by have z0 := lv_neT (a := 0) c_1_0 (by decide); have z1 := lv_neT (a := 1) c_1_1 (by decide); have z2 := lv_neT (a := 2) c_1_2 (by decide); have z3 := lv_neT (a := 3) c_1_3 (by decide); have z4 := lv_neT (a := 4) c_1_4 (by decide); have z5 := lv_neT (a := 5) c_1_5 (by decide); omega) (by decide) ?_
              refine lv_iconst (v := (-1)) hx hb dX1_look_70 (by decide) ?_
              have e9 : sp_look G x1 = (-1) := by unfold sp_look; simp only [if_neg c_1_0, if_neg c_1_1, if_neg c_1_2, if_neg c_1_3, if_neg c_1_4, if_neg c_1_5]
              exact hw_iret C T rfl e9.symm rfl dX1_look_71
/-- lightNow, its picture -/
def sp_lightNow (G : Nat → Int32) (S : Nat → Nat → Int32) (i : Nat) : Int32 := if (S i 3) = 1 then (if 4 ≤ ((G 2) - (G 2) / 16 * 16) then ((S i 2) / 2) else (S i 2)) else (if (S i 3) = 2 then (if (((G 2) / 32) - ((G 2) / 32) / 2 * 2) = 0 then (S i 2) else 0) else (if (S i 3) = 3 then (sp_max 0 ((S i 2) - (G 3))) else (S i 2)))
set_option maxHeartbeats 4000000 in
set_option maxRecDepth 100000 in
theorem c_H_lightNow {i : Nat} (hi : i < 32) : MI l D ((cA, .object RX0) :: tz) yX1_lightNow wsX1_lightNow { frames := 1, cells := 0, slots := 0, locals := 21 } [.ref h, .ref (ad i)] (hw_W h a ad cA G S) (sp_lightNow G S i) (hw_W h a ad cA G S) := by
  refine MI.start (cc := cX1_lightNow) (maxL := 2) (by decide) rfl (Nat.le_of_ble_eq_true rfl) (fun p e s m args below meth c A ls C T hl => ?_)
  have hx := C.1.1
  have hb := C.1.2.1
  have hml := C.1.2.2.1
  have hown : s.vm.findClass RX1 = some m.cls := C.1.2.2.2.1
  have hts := C.1.2.2.2.2
  have hK := C.2.2.2.1
  have hN := C.2.2.2.2.1
  have hinH : ∀ w ∈ wsX10, w ∈ wsX1_lightNow := by decide +kernel
  have hinS : ∀ w ∈ wsX00, w ∈ wsX1_lightNow := by decide +kernel
  have hl : lv_has ls 2 [(0, .ref h), (1, .ref (ad i))] := hl
  refine lv_aload_n hx hb dX1_lightNow_0 rfl (lv_at hl 1 rfl) ?_
  refine va_getN (D := D) (ci := 0) (v := .int (S i 3)) (C := RX0) (T := TX0) (N := 13) hx hb hts hinS hown hK T.1 (i + 2) (hw_at hi) rfl 3 (by decide) (va_Nw.use rfl (hN (.fieldLinkNest RX1 131 "MoverHall$Sector" "kind" "I" "MoverHall") (by decide +kernel))) (fun _ h9 => h9) rfl dX1_lightNow_1 ?_
  by_cases c_4_1 : (S i 3) = 1
  · skip
    refine lv_tableIn (off := 28) (tgt := 32) hx hb dX1_lightNow_4 (by rw [c_4_1]; decide) (by rw [c_4_1]; decide) (by rw [c_4_1]; decide +kernel) (by decide) ?_
    refine lv_aload_n hx hb dX1_lightNow_32 rfl (lv_at hl 0 rfl) ?_
    refine va_get (D := D) (ci := 1) (v := .int (G 2)) (C := RX1) (T := TX1) (N := 7) hx hb hts hinH hown hK T.1 0 rfl rfl 3 (by decide) (hts (.fieldLink RX1 55 "MoverHall" "tickCount" "I") (by decide +kernel)) (fun _ h9 => h9) rfl dX1_lightNow_33 ?_
    refine lv_bipush (v := 16) hx hb dX1_lightNow_36 (by decide) ?_
    refine lv_irem hx hb dX1_lightNow_38 (by decide) ?_
    refine lv_iconst (v := 4) hx hb dX1_lightNow_39 (by decide) ?_
    refine lv_icmp_ge (tgt := 50) hx hb dX1_lightNow_40 (by decide) (fun c_40 => ?_) (fun c_40 => ?_)
    · skip
      refine lv_aload_n hx hb dX1_lightNow_50 rfl (lv_at hl 1 rfl) ?_
      refine va_getN (D := D) (ci := 0) (v := .int (S i 2)) (C := RX0) (T := TX0) (N := 13) hx hb hts hinS hown hK T.1 (i + 2) (hw_at hi) rfl 2 (by decide) (va_Nw.use rfl (hN (.fieldLinkNest RX1 134 "MoverHall$Sector" "light" "I" "MoverHall") (by decide +kernel))) (fun _ h9 => h9) rfl dX1_lightNow_51 ?_
      refine lv_iconst (v := 2) hx hb dX1_lightNow_54 (by decide) ?_
      refine lv_idiv hx hb dX1_lightNow_55 (by decide) ?_
      have e9 : sp_lightNow G S i = (S i 2) / 2 := by unfold sp_lightNow; simp only [if_pos c_4_1, if_pos c_40]
      exact hw_iret C T rfl e9.symm rfl dX1_lightNow_56
    · skip
      refine lv_aload_n hx hb dX1_lightNow_43 rfl (lv_at hl 1 rfl) ?_
      refine va_getN (D := D) (ci := 0) (v := .int (S i 2)) (C := RX0) (T := TX0) (N := 13) hx hb hts hinS hown hK T.1 (i + 2) (hw_at hi) rfl 2 (by decide) (va_Nw.use rfl (hN (.fieldLinkNest RX1 134 "MoverHall$Sector" "light" "I" "MoverHall") (by decide +kernel))) (fun _ h9 => h9) rfl dX1_lightNow_44 ?_
      refine lv_goto (tgt := 56) hx hb dX1_lightNow_47 (by decide) ?_
      have e9 : sp_lightNow G S i = S i 2 := by unfold sp_lightNow; simp only [if_pos c_4_1, if_neg c_40]
      exact hw_iret C T rfl e9.symm rfl dX1_lightNow_56
  · skip
    by_cases c_4_2 : (S i 3) = 2
    · skip
      refine lv_tableIn (off := 53) (tgt := 57) hx hb dX1_lightNow_4 (by rw [c_4_2]; decide) (by rw [c_4_2]; decide) (by rw [c_4_2]; decide +kernel) (by decide) ?_
      refine lv_aload_n hx hb dX1_lightNow_57 rfl (lv_at hl 0 rfl) ?_
      refine va_get (D := D) (ci := 1) (v := .int (G 2)) (C := RX1) (T := TX1) (N := 7) hx hb hts hinH hown hK T.1 0 rfl rfl 3 (by decide) (hts (.fieldLink RX1 55 "MoverHall" "tickCount" "I") (by decide +kernel)) (fun _ h9 => h9) rfl dX1_lightNow_58 ?_
      refine lv_bipush (v := 32) hx hb dX1_lightNow_61 (by decide) ?_
      refine lv_idiv hx hb dX1_lightNow_63 (by decide) ?_
      refine lv_iconst (v := 2) hx hb dX1_lightNow_64 (by decide) ?_
      refine lv_irem hx hb dX1_lightNow_65 (by decide) ?_
      refine lv_if_ne (tgt := 76) hx hb dX1_lightNow_66 (by decide) (fun c_66 => ?_) (fun c_66 => ?_)
      · skip
        refine lv_iconst (v := 0) hx hb dX1_lightNow_76 (by decide) ?_
        have e9 : sp_lightNow G S i = 0 := by unfold sp_lightNow; simp only [if_neg c_4_1, if_pos c_4_2, if_neg c_66]
        exact hw_iret C T rfl e9.symm rfl dX1_lightNow_77
      · skip
        refine lv_aload_n hx hb dX1_lightNow_69 rfl (lv_at hl 1 rfl) ?_
        refine va_getN (D := D) (ci := 0) (v := .int (S i 2)) (C := RX0) (T := TX0) (N := 13) hx hb hts hinS hown hK T.1 (i + 2) (hw_at hi) rfl 2 (by decide) (va_Nw.use rfl (hN (.fieldLinkNest RX1 134 "MoverHall$Sector" "light" "I" "MoverHall") (by decide +kernel))) (fun _ h9 => h9) rfl dX1_lightNow_70 ?_
        refine lv_goto (tgt := 77) hx hb dX1_lightNow_73 (by decide) ?_
        have e9 : sp_lightNow G S i = S i 2 := by unfold sp_lightNow; simp only [if_neg c_4_1, if_pos c_4_2, if_pos c_66]
        exact hw_iret C T rfl e9.symm rfl dX1_lightNow_77
    · skip
      by_cases c_4_3 : (S i 3) = 3
      · skip
        refine lv_tableIn (off := 74) (tgt := 78) hx hb dX1_lightNow_4 (by rw [c_4_3]; decide) (by rw [c_4_3]; decide) (by rw [c_4_3]; decide +kernel) (by decide) ?_
        refine lv_iconst (v := 0) hx hb dX1_lightNow_78 (by decide) ?_
        refine lv_aload_n hx hb dX1_lightNow_79 rfl (lv_at hl 1 rfl) ?_
        refine va_getN (D := D) (ci := 0) (v := .int (S i 2)) (C := RX0) (T := TX0) (N := 13) hx hb hts hinS hown hK T.1 (i + 2) (hw_at hi) rfl 2 (by decide) (va_Nw.use rfl (hN (.fieldLinkNest RX1 134 "MoverHall$Sector" "light" "I" "MoverHall") (by decide +kernel))) (fun _ h9 => h9) rfl dX1_lightNow_80 ?_
        refine lv_aload_n hx hb dX1_lightNow_83 rfl (lv_at hl 0 rfl) ?_
        refine va_get (D := D) (ci := 1) (v := .int (G 3)) (C := RX1) (T := TX1) (N := 7) hx hb hts hinH hown hK T.1 0 rfl rfl 4 (by decide) (hts (.fieldLink RX1 58 "MoverHall" "moverCount" "I") (by decide +kernel)) (fun _ h9 => h9) rfl dX1_lightNow_84 ?_
        refine lv_isub hx hb dX1_lightNow_87 ?_
        refine va_mmax hx hb (by rw [hml, hl.1]) hown (hts (.methodLink RX1 124 Lib.Math.max.name) (by decide +kernel)) (hts (.static Lib.Math.max.name) (by decide +kernel)) (hts (.initialized "java/lang/Math") (by decide +kernel)) (hts (.code Lib.Math.max.name Lib.Math.max.code 2 (some .int)) (by decide +kernel)) (Nat.le_of_ble_eq_true rfl) (Nat.le_of_ble_eq_true rfl) (Nat.zero_le _) (Nat.zero_le _) dX1_lightNow_88 ?_
        refine W.eq (g2 := F0 m 91 ls [.int (sp_max 0 ((S i 2) - (G 3)))]) rfl ?_
        have e9 : sp_lightNow G S i = sp_max 0 ((S i 2) - (G 3)) := by unfold sp_lightNow; simp only [if_neg c_4_1, if_neg c_4_2, if_pos c_4_3]
        exact hw_iret C T rfl e9.symm rfl dX1_lightNow_91
      · skip
        refine lv_tableOut (tgt := 92) hx hb dX1_lightNow_4 (by have z1 := lv_neT (a := 1) c_4_1 (by decide); have z2 := lv_neT (a := 2) c_4_2 (by decide); have z3 := lv_neT (a := 3) c_4_3 (by decide); omega) (by decide) ?_
        refine lv_aload_n hx hb dX1_lightNow_92 rfl (lv_at hl 1 rfl) ?_
        refine va_getN (D := D) (ci := 0) (v := .int (S i 2)) (C := RX0) (T := TX0) (N := 13) hx hb hts hinS hown hK T.1 (i + 2) (hw_at hi) rfl 2 (by decide) (va_Nw.use rfl (hN (.fieldLinkNest RX1 134 "MoverHall$Sector" "light" "I" "MoverHall") (by decide +kernel))) (fun _ h9 => h9) rfl dX1_lightNow_93 ?_
        have e9 : sp_lightNow G S i = S i 2 := by unfold sp_lightNow; simp only [if_neg c_4_1, if_neg c_4_2, if_neg c_4_3]
        exact hw_iret C T rfl e9.symm rfl dX1_lightNow_96
end
