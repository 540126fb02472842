section
variable {l : Launch} {D : va_G} {h a : Nat} {ad : Nat → Nat} {cA : ClassId} {tz : List (ClassId × FieldType)} {G : Nat → Int32} {S : Nat → Nat → Int32} {n : Nat}
/-- reset: its loop, by what is left to do -/
def sp_reset_loop (G : Nat → Int32) : Nat → Nat → (Nat → Nat → Int32) → (Nat → Int32) × (Nat → Nat → Int32)
  | 0, _, S => (upd (upd (upd (upd G 2 0) 3 0) 4 0) 5 (-1), S)
  | k + 1, i, S => sp_reset_loop G k (i + 1) (sp_goBackToPlan S i)
set_option maxHeartbeats 4000000 in
set_option maxRecDepth 100000 in
theorem lp_reset {p : Program} {e : Env} {s : State} {m : MethodId} {args : Array Value} {below : List Frame} {meth : Method} {c : Code} {A : Nat → Prop}  (hG : hg_n G n) (C : hw_C p s m args meth c cX1_reset none 2 wsX1_reset yX1_reset.cls D ((cA, .object RX0) :: tz) A) :
    ∀ (k i : Nat) (S : Nat → Nat → Int32), i + k = n → ∀ (ls : Array Slot) (H : Heap) (locs : List Loc), hw_T D A s.heap (hw_W h a ad cA G S) H locs → lv_has ls 2 [(0, .ref h), (1, .int (nI i))] → W p l e { frames := 2, cells := 0, slots := 0, locals := 40 } s m args below meth c H locs 0 0 (MQ below (va_Qv (fun (_ : Unit) => True) (fun _ t => va_P D vwCl (hw_W h a ad cA (sp_reset_loop G k i S).1 (sp_reset_loop G k i S).2) t.heap) A) args s 0 0 A) (F0 m 2 ls []) := by
  have hx := C.1.1
  have hb := C.1.2.1
  have hml := C.1.2.2.1
  have hown : s.vm.findClass RX1 = some m.cls := C.1.2.2.2.1
  have hts := C.1.2.2.2.2
  have hK := C.2.2.2.1
  have hN := C.2.2.2.2.1
  have hinH : ∀ w ∈ wsX10, w ∈ wsX1_reset := by decide +kernel
  have hn32 := hG.1
  intro k
  induction k with
  | zero =>
    intro i S hik ls H locs T hl
    refine lv_iload_n hx hb dX1_reset_2 rfl (lv_at hl 1 rfl) ?_
    refine lv_aload_n hx hb dX1_reset_3 rfl (lv_at hl 0 rfl) ?_
    refine va_get (D := D) (ci := 1) (v := .int (G 0)) (C := RX1) (T := TX1) (N := 7) hx hb hts hinH hown hK T.1 0 rfl rfl 1 (by decide) (hts (.fieldLink RX1 20 "MoverHall" "sectorCount" "I") (by decide +kernel)) (fun _ h9 => h9) rfl dX1_reset_4 ?_
    refine lv_icmp_ge (tgt := 25) hx hb dX1_reset_7 (by decide) (fun c_7 => ?_) (fun c_7 => absurd (show G 0 ≤ nI i by rw [hG.2]; exact nI_le (show n ≤ i by omega) (by omega)) c_7)
    refine lv_aload_n hx hb dX1_reset_25 rfl (lv_at hl 0 rfl) ?_
    refine lv_iconst (v := 0) hx hb dX1_reset_26 (by decide) ?_
    refine va_put (D := D) (ci := 1) (v := .int 0) (ty := .int) (C := RX1) (T := TX1) (N := 7) hx hb hts hinH tyX1 tyX1_ok nmX1 hown hK T.1 T.2.1 T.2.2 0 rfl rfl 3 (by decide) (hts (.fieldLink RX1 55 "MoverHall" "tickCount" "I") (by decide +kernel)) (fun _ h9 => h9) rfl (by decide +kernel) rfl rfl (Nat.le_of_ble_eq_true rfl) dX1_reset_27 (fun H locs hP hD hS => ?_)
    have T := hw_setH (k := 2) (v := 0) rfl ⟨hP, hD, hS⟩
    refine lv_aload_n hx hb dX1_reset_30 rfl (lv_at hl 0 rfl) ?_
    refine lv_iconst (v := 0) hx hb dX1_reset_31 (by decide) ?_
    refine va_put (D := D) (ci := 1) (v := .int 0) (ty := .int) (C := RX1) (T := TX1) (N := 7) hx hb hts hinH tyX1 tyX1_ok nmX1 hown hK T.1 T.2.1 T.2.2 0 rfl rfl 4 (by decide) (hts (.fieldLink RX1 58 "MoverHall" "moverCount" "I") (by decide +kernel)) (fun _ h9 => h9) rfl (by decide +kernel) rfl rfl (Nat.le_of_ble_eq_true rfl) dX1_reset_32 (fun H locs hP hD hS => ?_)
    have T := hw_setH (k := 3) (v := 0) rfl ⟨hP, hD, hS⟩
    refine lv_aload_n hx hb dX1_reset_35 rfl (lv_at hl 0 rfl) ?_
    refine lv_iconst (v := 0) hx hb dX1_reset_36 (by decide) ?_
    refine va_put (D := D) (ci := 1) (v := .int 0) (ty := .int) (C := RX1) (T := TX1) (N := 7) hx hb hts hinH tyX1 tyX1_ok nmX1 hown hK T.1 T.2.1 T.2.2 0 rfl rfl 5 (by decide) (hts (.fieldLink RX1 61 "MoverHall" "blockedCount" "I") (by decide +kernel)) (fun _ h9 => h9) rfl (by decide +kernel) rfl rfl (Nat.le_of_ble_eq_true rfl) dX1_reset_37 (fun H locs hP hD hS => ?_)
    have T := hw_setH (k := 4) (v := 0) rfl ⟨hP, hD, hS⟩
    refine lv_aload_n hx hb dX1_reset_40 rfl (lv_at hl 0 rfl) ?_
    refine lv_iconst (v := (-1)) hx hb dX1_reset_41 (by decide) ?_
    refine va_put (D := D) (ci := 1) (v := .int (-1)) (ty := .int) (C := RX1) (T := TX1) (N := 7) hx hb hts hinH tyX1 tyX1_ok nmX1 hown hK T.1 T.2.1 T.2.2 0 rfl rfl 6 (by decide) (hts (.fieldLink RX1 16 "MoverHall" "guestSector" "I") (by decide +kernel)) (fun _ h9 => h9) rfl (by decide +kernel) rfl rfl (Nat.le_of_ble_eq_true rfl) dX1_reset_42 (fun H locs hP hD hS => ?_)
    have T := hw_setH (k := 5) (v := (-1)) rfl ⟨hP, hD, hS⟩
    have e9 : sp_reset_loop G 0 i S = (upd (upd (upd (upd G 2 0) 3 0) 4 0) 5 (-1), S) := by rw [sp_reset_loop]
    exact hw_vret C T (by rw [e9]) dX1_reset_45
  | succ k ih =>
    intro i S hik ls H locs T hl
    refine lv_iload_n hx hb dX1_reset_2 rfl (lv_at hl 1 rfl) ?_
    refine lv_aload_n hx hb dX1_reset_3 rfl (lv_at hl 0 rfl) ?_
    refine va_get (D := D) (ci := 1) (v := .int (G 0)) (C := RX1) (T := TX1) (N := 7) hx hb hts hinH hown hK T.1 0 rfl rfl 1 (by decide) (hts (.fieldLink RX1 20 "MoverHall" "sectorCount" "I") (by decide +kernel)) (fun _ h9 => h9) rfl dX1_reset_4 ?_
    refine lv_icmp_ge (tgt := 25) hx hb dX1_reset_7 (by decide) (fun c_7 => absurd c_7 (show ¬ G 0 ≤ nI i by rw [hG.2]; exact nI_ge (show i < n by omega) (by omega))) (fun c_7 => ?_)
    refine lv_aload_n hx hb dX1_reset_10 rfl (lv_at hl 0 rfl) ?_
    refine va_get (D := D) (ci := 1) (v := .ref a) (C := RX1) (T := TX1) (N := 7) hx hb hts hinH hown hK T.1 0 rfl rfl 0 (by decide) (hts (.fieldLink RX1 11 "MoverHall" "sectors" "[LMoverHall$Sector;") (by decide +kernel)) (fun _ h9 => h9) rfl dX1_reset_11 ?_
    refine lv_iload_n hx hb dX1_reset_14 rfl (lv_at hl 1 rfl) ?_
    have h_15 : vp_in (nI i) 32 := vp_in_nI (show i < 32 by omega) (by decide)
    refine va_aldq hx hb hK T.1 1 0 rfl rfl h_15 dX1_reset_15 ?_
    refine W.eq (g2 := F0 m 16 ls [.ref (ad i)]) (by rw [nI_clamp (show i < 2 ^ 31 by omega)] <;> rfl) ?_
    refine hw_Nv (As := []) (rest := []) C T (c_S_goBackToPlan (show i < 32 by omega)) ⟨va_cnB 0 hts gX1_reset_X0_goBackToPlan_n52 rfl rfl rfl (hN (.methodLinkNest RX1 52 yX0_goBackToPlan "MoverHall") (by decide +kernel)) (hts (.initialized RX0) (by decide +kernel)) (by decide +kernel) ⟨Nat.le_of_ble_eq_true rfl, Nat.le_of_ble_eq_true rfl⟩, hts (.instanceMethod yX0_goBackToPlan) (by decide +kernel), hts (.selects RX0 yX0_goBackToPlan yX0_goBackToPlan) (by decide +kernel)⟩ (hw_isS (show i < 32 by omega)) hw_ad rfl hl.1 rfl (Nat.le_of_ble_eq_true rfl) dX1_reset_16 ⟨Nat.zero_le _, Nat.zero_le _⟩ (fun H locs T => ?_)
    refine lv_iinc (v := nI (i + 1)) (lv' := [(1, .int (nI (i + 1))), (0, .ref h)]) hx hb dX1_reset_19 hl (k := 1) rfl (nI_1 i) (by decide) rfl (fun ls hl => ?_)
    refine lv_goto (tgt := 2) hx hb dX1_reset_22 (by decide) ?_
    rw [show sp_reset_loop G (k + 1) i S = sp_reset_loop G k (i + 1) (sp_goBackToPlan S i) from by rw [sp_reset_loop]]
    exact ih (i + 1) _ (by omega) _ _ _ T (lv_sub hl [1, 0] rfl)
/-- reset, its picture -/
def sp_reset (G : Nat → Int32) (S : Nat → Nat → Int32) (n : Nat) : (Nat → Int32) × (Nat → Nat → Int32) := sp_reset_loop G n 0 S
set_option maxHeartbeats 4000000 in
set_option maxRecDepth 100000 in
theorem c_H_reset  (hG : hg_n G n) : MV l D ((cA, .object RX0) :: tz) yX1_reset wsX1_reset { frames := 2, cells := 0, slots := 0, locals := 40 } [.ref h] (hw_W h a ad cA G S) (hw_W h a ad cA (sp_reset G S n).1 (sp_reset G S n).2) := by
  refine MV.start (cc := cX1_reset) (maxL := 2) (by decide) rfl (Nat.le_of_ble_eq_true rfl) (fun p e s m args below meth c A ls C T hl => ?_)
  have hx := C.1.1
  have hb := C.1.2.1
  have hml := C.1.2.2.1
  have hown : s.vm.findClass RX1 = some m.cls := C.1.2.2.2.1
  have hts := C.1.2.2.2.2
  have hK := C.2.2.2.1
  have hN := C.2.2.2.2.1
  have hinH : ∀ w ∈ wsX10, w ∈ wsX1_reset := by decide +kernel
  have hn32 := hG.1
  have hl : lv_has ls 2 [(0, .ref h)] := hl
  refine lv_iconst (v := 0) hx hb dX1_reset_0 (by decide) ?_
  refine lv_istore_n (lv' := [(1, .int 0), (0, .ref h)]) hx hb dX1_reset_1 rfl hl (by decide) rfl (fun ls hl => ?_)
  rw [show sp_reset G S n = sp_reset_loop G n 0 S from by rfl]
  exact lp_reset hG C n 0 _ (by omega) _ _ _ T (lv_sub hl [1, 0] rfl)
/-- clear, its picture -/
def sp_clear (G : Nat → Int32) (S : Nat → Nat → Int32) (n : Nat) : (Nat → Int32) × (Nat → Nat → Int32) := ((sp_reset (upd (upd G 0 0) 1 0) S 0).1, (sp_reset (upd (upd G 0 0) 1 0) S 0).2)
set_option maxHeartbeats 4000000 in
set_option maxRecDepth 100000 in
theorem c_H_clear  (hG : hg_n G n) : MV l D ((cA, .object RX0) :: tz) yX1_clear wsX1_clear { frames := 3, cells := 0, slots := 0, locals := 61 } [.ref h] (hw_W h a ad cA G S) (hw_W h a ad cA (sp_clear G S n).1 (sp_clear G S n).2) := by
  refine MV.start (cc := cX1_clear) (maxL := 1) (by decide) rfl (Nat.le_of_ble_eq_true rfl) (fun p e s m args below meth c A ls C T hl => ?_)
  have hx := C.1.1
  have hb := C.1.2.1
  have hml := C.1.2.2.1
  have hown : s.vm.findClass RX1 = some m.cls := C.1.2.2.2.1
  have hts := C.1.2.2.2.2
  have hK := C.2.2.2.1
  have hinH : ∀ w ∈ wsX10, w ∈ wsX1_clear := by decide +kernel
  have hn32 := hG.1
  have hl : lv_has ls 1 [(0, .ref h)] := hl
  refine lv_aload_n hx hb dX1_clear_0 rfl (lv_at hl 0 rfl) ?_
  refine lv_iconst (v := 0) hx hb dX1_clear_1 (by decide) ?_
  refine va_put (D := D) (ci := 1) (v := .int 0) (ty := .int) (C := RX1) (T := TX1) (N := 7) hx hb hts hinH tyX1 tyX1_ok nmX1 hown hK T.1 T.2.1 T.2.2 0 rfl rfl 1 (by decide) (hts (.fieldLink RX1 20 "MoverHall" "sectorCount" "I") (by decide +kernel)) (fun _ h9 => h9) rfl (by decide +kernel) rfl rfl (Nat.le_of_ble_eq_true rfl) dX1_clear_2 (fun H locs hP hD hS => ?_)
  have T := hw_setH (k := 0) (v := 0) rfl ⟨hP, hD, hS⟩
  refine lv_aload_n hx hb dX1_clear_5 rfl (lv_at hl 0 rfl) ?_
  refine lv_iconst (v := 0) hx hb dX1_clear_6 (by decide) ?_
  refine va_put (D := D) (ci := 1) (v := .int 0) (ty := .int) (C := RX1) (T := TX1) (N := 7) hx hb hts hinH tyX1 tyX1_ok nmX1 hown hK T.1 T.2.1 T.2.2 0 rfl rfl 2 (by decide) (hts (.fieldLink RX1 49 "MoverHall" "pairCount" "I") (by decide +kernel)) (fun _ h9 => h9) rfl (by decide +kernel) rfl rfl (Nat.le_of_ble_eq_true rfl) dX1_clear_7 (fun H locs hP hD hS => ?_)
  have T := hw_setH (k := 1) (v := 0) rfl ⟨hP, hD, hS⟩
  refine lv_aload_n hx hb dX1_clear_10 rfl (lv_at hl 0 rfl) ?_
  refine hw_Vv (As := []) (rest := []) C T (c_H_reset (hg_up (by decide) (hg_0 (G := G)))) (cwV 0 hts gX1_clear_X1_reset rfl rfl rfl (by decide +kernel) ⟨Nat.le_of_ble_eq_true rfl, Nat.le_of_ble_eq_true rfl⟩) hw_isH hw_ad rfl hl.1 rfl (Nat.le_of_ble_eq_true rfl) dX1_clear_11 ⟨Nat.zero_le _, Nat.zero_le _⟩ (fun H locs T => ?_)
  have e9 : sp_clear G S n = ((sp_reset (upd (upd G 0 0) 1 0) S 0).1, (sp_reset (upd (upd G 0 0) 1 0) S 0).2) := by rfl
  exact hw_vret C T (by rw [e9]) dX1_clear_14
/-- passOneTick: its loop, by what is left to do -/
def sp_passOneTick_loop  : Nat → Nat → (Nat → Int32) → (Nat → Nat → Int32) → (Nat → Int32) × (Nat → Nat → Int32)
  | 0, _, G, S => (G, S)
  | k + 1, i, G, S => if (nI i) = (G 5) then (sp_passOneTick_loop k (i + 1) ((sp_move G S i 1).1) ((sp_move G S i 1).2)) else (sp_passOneTick_loop k (i + 1) ((sp_move G S i 0).1) ((sp_move G S i 0).2))
set_option maxHeartbeats 4000000 in
set_option maxRecDepth 100000 in
theorem lp_passOneTick {p : Program} {e : Env} {s : State} {m : MethodId} {args : Array Value} {below : List Frame} {meth : Method} {c : Code} {A : Nat → Prop}   (C : hw_C p s m args meth c cX1_passOneTick none 2 wsX1_passOneTick yX1_passOneTick.cls D ((cA, .object RX0) :: tz) A) :
    ∀ (k i : Nat) (G : Nat → Int32) (S : Nat → Nat → Int32), i + k = n → hg_n G n → ∀ (ls : Array Slot) (H : Heap) (locs : List Loc), hw_T D A s.heap (hw_W h a ad cA G S) H locs → lv_has ls 2 [(0, .ref h), (1, .int (nI i))] → W p l e { frames := 5, cells := 0, slots := 0, locals := 110 } s m args below meth c H locs 0 0 (MQ below (va_Qv (fun (_ : Unit) => True) (fun _ t => va_P D vwCl (hw_W h a ad cA (sp_passOneTick_loop k i G S).1 (sp_passOneTick_loop k i G S).2) t.heap) A) args s 0 0 A) (F0 m 20 ls []) := by
  have hx := C.1.1
  have hb := C.1.2.1
  have hml := C.1.2.2.1
  have hown : s.vm.findClass RX1 = some m.cls := C.1.2.2.2.1
  have hts := C.1.2.2.2.2
  have hK := C.2.2.2.1
  have hinH : ∀ w ∈ wsX10, w ∈ wsX1_passOneTick := by decide +kernel
  intro k
  induction k with
  | zero =>
    intro i G S hik hG ls H locs T hl
    have hn32 := hG.1
    refine lv_iload_n hx hb dX1_passOneTick_20 rfl (lv_at hl 1 rfl) ?_
    refine lv_aload_n hx hb dX1_passOneTick_21 rfl (lv_at hl 0 rfl) ?_
    refine va_get (D := D) (ci := 1) (v := .int (G 0)) (C := RX1) (T := TX1) (N := 7) hx hb hts hinH hown hK T.1 0 rfl rfl 1 (by decide) (hts (.fieldLink RX1 20 "MoverHall" "sectorCount" "I") (by decide +kernel)) (fun _ h9 => h9) rfl dX1_passOneTick_22 ?_
    refine lv_icmp_ge (tgt := 57) hx hb dX1_passOneTick_25 (by decide) (fun c_25 => ?_) (fun c_25 => absurd (show G 0 ≤ nI i by rw [hG.2]; exact nI_le (show n ≤ i by omega) (by omega)) c_25)
    have e9 : sp_passOneTick_loop 0 i G S = (G, S) := by rw [sp_passOneTick_loop]
    exact hw_vret C T (by rw [e9]) dX1_passOneTick_57
  | succ k ih =>
    intro i G S hik hG ls H locs T hl
    have hn32 := hG.1
    refine lv_iload_n hx hb dX1_passOneTick_20 rfl (lv_at hl 1 rfl) ?_
    refine lv_aload_n hx hb dX1_passOneTick_21 rfl (lv_at hl 0 rfl) ?_
    refine va_get (D := D) (ci := 1) (v := .int (G 0)) (C := RX1) (T := TX1) (N := 7) hx hb hts hinH hown hK T.1 0 rfl rfl 1 (by decide) (hts (.fieldLink RX1 20 "MoverHall" "sectorCount" "I") (by decide +kernel)) (fun _ h9 => h9) rfl dX1_passOneTick_22 ?_
    refine lv_icmp_ge (tgt := 57) hx hb dX1_passOneTick_25 (by decide) (fun c_25 => absurd c_25 (show ¬ G 0 ≤ nI i by rw [hG.2]; exact nI_ge (show i < n by omega) (by omega))) (fun c_25 => ?_)
    refine lv_aload_n hx hb dX1_passOneTick_28 rfl (lv_at hl 0 rfl) ?_
    refine lv_aload_n hx hb dX1_passOneTick_29 rfl (lv_at hl 0 rfl) ?_
    refine va_get (D := D) (ci := 1) (v := .ref a) (C := RX1) (T := TX1) (N := 7) hx hb hts hinH hown hK T.1 0 rfl rfl 0 (by decide) (hts (.fieldLink RX1 11 "MoverHall" "sectors" "[LMoverHall$Sector;") (by decide +kernel)) (fun _ h9 => h9) rfl dX1_passOneTick_30 ?_
    refine lv_iload_n hx hb dX1_passOneTick_33 rfl (lv_at hl 1 rfl) ?_
    have h_34 : vp_in (nI i) 32 := vp_in_nI (show i < 32 by omega) (by decide)
    refine va_aldq hx hb hK T.1 1 0 rfl rfl h_34 dX1_passOneTick_34 ?_
    refine W.eq (g2 := F0 m 35 ls [.ref (ad i), .ref h]) (by rw [nI_clamp (show i < 2 ^ 31 by omega)] <;> rfl) ?_
    refine lv_iload_n hx hb dX1_passOneTick_35 rfl (lv_at hl 1 rfl) ?_
    refine lv_aload_n hx hb dX1_passOneTick_36 rfl (lv_at hl 0 rfl) ?_
    refine va_get (D := D) (ci := 1) (v := .int (G 5)) (C := RX1) (T := TX1) (N := 7) hx hb hts hinH hown hK T.1 0 rfl rfl 6 (by decide) (hts (.fieldLink RX1 16 "MoverHall" "guestSector" "I") (by decide +kernel)) (fun _ h9 => h9) rfl dX1_passOneTick_37 ?_
    refine lv_icmp_ne (tgt := 47) hx hb dX1_passOneTick_40 (by decide) (fun c_40 => ?_) (fun c_40 => ?_)
    · skip
      refine lv_iconst (v := 0) hx hb dX1_passOneTick_47 (by decide) ?_
      refine hw_Vv (As := [.ref (ad i), .int 0]) (rest := []) C T (c_H_move (show i < 32 by omega)) (cwV 2 hts gX1_passOneTick_X1_move rfl rfl rfl (by decide +kernel) ⟨Nat.le_of_ble_eq_true rfl, Nat.le_of_ble_eq_true rfl⟩) hw_isH hw_ad rfl hl.1 rfl (Nat.le_of_ble_eq_true rfl) dX1_passOneTick_48 ⟨Nat.zero_le _, Nat.zero_le _⟩ (fun H locs T => ?_)
      refine lv_iinc (v := nI (i + 1)) (lv' := [(1, .int (nI (i + 1))), (0, .ref h)]) hx hb dX1_passOneTick_51 hl (k := 1) rfl (nI_1 i) (by decide) rfl (fun ls hl => ?_)
      refine lv_goto (tgt := 20) hx hb dX1_passOneTick_54 (by decide) ?_
      rw [show sp_passOneTick_loop (k + 1) i G S = sp_passOneTick_loop k (i + 1) ((sp_move G S i 0).1) ((sp_move G S i 0).2) from by rw [sp_passOneTick_loop]; simp only [if_neg c_40]]
      exact ih (i + 1) _ _ (by omega) (sp_move_n hG) _ _ _ T (lv_sub hl [1, 0] rfl)
    · skip
      refine lv_iconst (v := 1) hx hb dX1_passOneTick_43 (by decide) ?_
      refine lv_goto (tgt := 48) hx hb dX1_passOneTick_44 (by decide) ?_
      refine hw_Vv (As := [.ref (ad i), .int 1]) (rest := []) C T (c_H_move (show i < 32 by omega)) (cwV 2 hts gX1_passOneTick_X1_move rfl rfl rfl (by decide +kernel) ⟨Nat.le_of_ble_eq_true rfl, Nat.le_of_ble_eq_true rfl⟩) hw_isH hw_ad rfl hl.1 rfl (Nat.le_of_ble_eq_true rfl) dX1_passOneTick_48 ⟨Nat.zero_le _, Nat.zero_le _⟩ (fun H locs T => ?_)
      refine lv_iinc (v := nI (i + 1)) (lv' := [(1, .int (nI (i + 1))), (0, .ref h)]) hx hb dX1_passOneTick_51 hl (k := 1) rfl (nI_1 i) (by decide) rfl (fun ls hl => ?_)
      refine lv_goto (tgt := 20) hx hb dX1_passOneTick_54 (by decide) ?_
      rw [show sp_passOneTick_loop (k + 1) i G S = sp_passOneTick_loop k (i + 1) ((sp_move G S i 1).1) ((sp_move G S i 1).2) from by rw [sp_passOneTick_loop]; simp only [if_pos c_40]]
      exact ih (i + 1) _ _ (by omega) (sp_move_n hG) _ _ _ T (lv_sub hl [1, 0] rfl)
/-- passOneTick, its picture -/
def sp_passOneTick (G : Nat → Int32) (S : Nat → Nat → Int32) (n : Nat) : (Nat → Int32) × (Nat → Nat → Int32) := if ((upd G 2 ((G 2) + 1)) 3) = 0 then (upd G 2 ((G 2) + 1), S) else (sp_passOneTick_loop n 0 (upd G 2 ((G 2) + 1)) S)
theorem sp_passOneTick_loop_0 : ∀ (k i : Nat) (G : Nat → Int32) (S : Nat → Nat → Int32), (sp_passOneTick_loop k i G S).1 0 = G 0 := by
  intro k
  induction k with
  | zero => intro i G S; rfl
  | succ k ih =>
    intro i G S
    rw [sp_passOneTick_loop]
    split
    · rw [ih, sp_move_0]
    · rw [ih, sp_move_0]
theorem sp_passOneTick_0 {G : Nat → Int32} {S : Nat → Nat → Int32} {n : Nat} : (sp_passOneTick G S n).1 0 = G 0 := by
  unfold sp_passOneTick
  split
  · rfl
  · rw [sp_passOneTick_loop_0]; rfl
theorem sp_passOneTick_n {G : Nat → Int32} {S : Nat → Nat → Int32} {n : Nat} (h : hg_n G n) : hg_n (sp_passOneTick G S n).1 n := ⟨h.1, by rw [sp_passOneTick_0]; exact h.2⟩
set_option maxHeartbeats 4000000 in
set_option maxRecDepth 100000 in
theorem c_H_passOneTick  (hG : hg_n G n) : MV l D ((cA, .object RX0) :: tz) yX1_passOneTick wsX1_passOneTick { frames := 5, cells := 0, slots := 0, locals := 110 } [.ref h] (hw_W h a ad cA G S) (hw_W h a ad cA (sp_passOneTick G S n).1 (sp_passOneTick G S n).2) := by
  refine MV.start (cc := cX1_passOneTick) (maxL := 2) (by decide) rfl (Nat.le_of_ble_eq_true rfl) (fun p e s m args below meth c A ls C T hl => ?_)
  have hx := C.1.1
  have hb := C.1.2.1
  have hml := C.1.2.2.1
  have hown : s.vm.findClass RX1 = some m.cls := C.1.2.2.2.1
  have hts := C.1.2.2.2.2
  have hK := C.2.2.2.1
  have hinH : ∀ w ∈ wsX10, w ∈ wsX1_passOneTick := by decide +kernel
  have hn32 := hG.1
  have hl : lv_has ls 2 [(0, .ref h)] := hl
  refine lv_aload_n hx hb dX1_passOneTick_0 rfl (lv_at hl 0 rfl) ?_
  refine lv_dup hx hb dX1_passOneTick_1 rfl ?_
  refine va_get (D := D) (ci := 1) (v := .int (G 2)) (C := RX1) (T := TX1) (N := 7) hx hb hts hinH hown hK T.1 0 rfl rfl 3 (by decide) (hts (.fieldLink RX1 55 "MoverHall" "tickCount" "I") (by decide +kernel)) (fun _ h9 => h9) rfl dX1_passOneTick_2 ?_
  refine lv_iconst (v := 1) hx hb dX1_passOneTick_5 (by decide) ?_
  refine lv_iadd hx hb dX1_passOneTick_6 ?_
  refine va_put (D := D) (ci := 1) (v := .int ((G 2) + 1)) (ty := .int) (C := RX1) (T := TX1) (N := 7) hx hb hts hinH tyX1 tyX1_ok nmX1 hown hK T.1 T.2.1 T.2.2 0 rfl rfl 3 (by decide) (hts (.fieldLink RX1 55 "MoverHall" "tickCount" "I") (by decide +kernel)) (fun _ h9 => h9) rfl (by decide +kernel) rfl rfl (Nat.le_of_ble_eq_true rfl) dX1_passOneTick_7 (fun H locs hP hD hS => ?_)
  have T := hw_setH (k := 2) (v := (G 2) + 1) rfl ⟨hP, hD, hS⟩
  refine lv_aload_n hx hb dX1_passOneTick_10 rfl (lv_at hl 0 rfl) ?_
  refine va_get (D := D) (ci := 1) (v := .int ((upd G 2 ((G 2) + 1)) 3)) (C := RX1) (T := TX1) (N := 7) hx hb hts hinH hown hK T.1 0 rfl rfl 4 (by decide) (hts (.fieldLink RX1 58 "MoverHall" "moverCount" "I") (by decide +kernel)) (fun _ h9 => h9) rfl dX1_passOneTick_11 ?_
  refine lv_if_ne (tgt := 18) hx hb dX1_passOneTick_14 (by decide) (fun c_14 => ?_) (fun c_14 => ?_)
  · skip
    refine lv_iconst (v := 0) hx hb dX1_passOneTick_18 (by decide) ?_
    refine lv_istore_n (lv' := [(1, .int 0), (0, .ref h)]) hx hb dX1_passOneTick_19 rfl hl (by decide) rfl (fun ls hl => ?_)
    rw [show sp_passOneTick G S n = sp_passOneTick_loop n 0 (upd G 2 ((G 2) + 1)) S from by unfold sp_passOneTick; simp only [if_neg c_14]]
    exact lp_passOneTick C n 0 _ _ (by omega) (hg_up (by decide) hG) _ _ _ T (lv_sub hl [1, 0] rfl)
  · skip
    have e9 : sp_passOneTick G S n = (upd G 2 ((G 2) + 1), S) := by unfold sp_passOneTick; simp only [if_pos c_14]
    exact hw_vret C T (by rw [e9]) dX1_passOneTick_17
/-- sector, its picture -/
def sp_sector (G : Nat → Int32) (S : Nat → Nat → Int32) (n : Nat) (x1 : Int32) (x2 : Int32) (x3 : Int32) (x4 : Int32) (x5 : Int32) : Int32 × (Nat → Int32) × (Nat → Nat → Int32) := if 32 ≤ (G 0) then ((-1), G, S) else (if (sp_isShape x1 x2) = 0 then ((-1), G, S) else (if (sp_isWithin x3 0 15) = 0 then ((-1), G, S) else (if (sp_isWithin x4 0 3) = 0 then ((-1), G, S) else (if (sp_isWithin x5 0 255) = 0 then ((-1), G, S) else (G 0, (sp_reset (upd G 0 ((G 0) + 1)) (sp_plan S ((G 0).toNatClampNeg) x1 x2 x3 x4 x5) (n + 1)).1, (sp_reset (upd G 0 ((G 0) + 1)) (sp_plan S ((G 0).toNatClampNeg) x1 x2 x3 x4 x5) (n + 1)).2)))))
set_option maxHeartbeats 4000000 in
set_option maxRecDepth 100000 in
theorem c_H_sector {x1 : Int32} {x2 : Int32} {x3 : Int32} {x4 : Int32} {x5 : Int32} (hG : hg_n G n) : MI l D ((cA, .object RX0) :: tz) yX1_sector wsX1_sector { frames := 3, cells := 0, slots := 0, locals := 61 } [.ref h, .int x1, .int x2, .int x3, .int x4, .int x5] (hw_W h a ad cA G S) ((sp_sector G S n x1 x2 x3 x4 x5).1) (hw_W h a ad cA (sp_sector G S n x1 x2 x3 x4 x5).2.1 (sp_sector G S n x1 x2 x3 x4 x5).2.2) := by
  refine MI.start (cc := cX1_sector) (maxL := 7) (by decide) rfl (Nat.le_of_ble_eq_true rfl) (fun p e s m args below meth c A ls C T hl => ?_)
  have hx := C.1.1
  have hb := C.1.2.1
  have hml := C.1.2.2.1
  have hown : s.vm.findClass RX1 = some m.cls := C.1.2.2.2.1
  have hts := C.1.2.2.2.2
  have hK := C.2.2.2.1
  have hN := C.2.2.2.2.1
  have hinH : ∀ w ∈ wsX10, w ∈ wsX1_sector := by decide +kernel
  have hn32 := hG.1
  have hl : lv_has ls 7 [(0, .ref h), (1, .int x1), (2, .int x2), (3, .int x3), (4, .int x4), (5, .int x5)] := hl
  refine lv_aload_n hx hb dX1_sector_0 rfl (lv_at hl 0 rfl) ?_
  refine va_get (D := D) (ci := 1) (v := .int (G 0)) (C := RX1) (T := TX1) (N := 7) hx hb hts hinH hown hK T.1 0 rfl rfl 1 (by decide) (hts (.fieldLink RX1 20 "MoverHall" "sectorCount" "I") (by decide +kernel)) (fun _ h9 => h9) rfl dX1_sector_1 ?_
  refine lv_bipush (v := 32) hx hb dX1_sector_4 (by decide) ?_
  refine lv_icmp_ge (tgt := 49) hx hb dX1_sector_6 (by decide) (fun c_6 => ?_) (fun c_6 => ?_)
  · skip
    refine lv_iconst (v := (-1)) hx hb dX1_sector_49 (by decide) ?_
    have e9 : sp_sector G S n x1 x2 x3 x4 x5 = ((-1), G, S) := by unfold sp_sector; simp only [if_pos c_6]
    exact hw_iret C T rfl (by rw [e9]) (by rw [e9]) dX1_sector_50
  · skip
    refine lv_iload_n hx hb dX1_sector_9 rfl (lv_at hl 1 rfl) ?_
    refine lv_iload_n hx hb dX1_sector_10 rfl (lv_at hl 2 rfl) ?_
    refine hw_Si (As := [.int x1, .int x2]) (rest := []) C T (c_H_isShape) (va_cwS 2 hts gX1_sector_X1_isShape rfl rfl rfl (by decide +kernel) ⟨Nat.le_of_ble_eq_true rfl, Nat.le_of_ble_eq_true rfl⟩) hw_ad rfl hl.1 rfl (Nat.le_of_ble_eq_true rfl) dX1_sector_11 ⟨Nat.zero_le _, Nat.zero_le _⟩ (fun H locs T => ?_)
    refine lv_if_eq (tgt := 49) hx hb dX1_sector_14 (by decide) (fun c_14 => ?_) (fun c_14 => ?_)
    · skip
      refine lv_iconst (v := (-1)) hx hb dX1_sector_49 (by decide) ?_
      have e9 : sp_sector G S n x1 x2 x3 x4 x5 = ((-1), G, S) := by unfold sp_sector; simp only [if_neg c_6, if_pos c_14]
      exact hw_iret C T rfl (by rw [e9]) (by rw [e9]) dX1_sector_50
    · skip
      refine lv_iload_n hx hb dX1_sector_17 rfl (lv_at hl 3 rfl) ?_
      refine lv_iconst (v := 0) hx hb dX1_sector_18 (by decide) ?_
      refine lv_bipush (v := 15) hx hb dX1_sector_19 (by decide) ?_
      refine hw_Si (As := [.int x3, .int 0, .int 15]) (rest := []) C T (c_H_isWithin) (va_cwS 3 hts gX1_sector_X1_isWithin rfl rfl rfl (by decide +kernel) ⟨Nat.le_of_ble_eq_true rfl, Nat.le_of_ble_eq_true rfl⟩) hw_ad rfl hl.1 rfl (Nat.le_of_ble_eq_true rfl) dX1_sector_21 ⟨Nat.zero_le _, Nat.zero_le _⟩ (fun H locs T => ?_)
      refine lv_if_eq (tgt := 49) hx hb dX1_sector_24 (by decide) (fun c_24 => ?_) (fun c_24 => ?_)
      · skip
        refine lv_iconst (v := (-1)) hx hb dX1_sector_49 (by decide) ?_
        have e9 : sp_sector G S n x1 x2 x3 x4 x5 = ((-1), G, S) := by unfold sp_sector; simp only [if_neg c_6, if_neg c_14, if_pos c_24]
        exact hw_iret C T rfl (by rw [e9]) (by rw [e9]) dX1_sector_50
      · skip
        refine lv_iload hx hb dX1_sector_27 (lv_at hl 4 rfl) ?_
        refine lv_iconst (v := 0) hx hb dX1_sector_29 (by decide) ?_
        refine lv_iconst (v := 3) hx hb dX1_sector_30 (by decide) ?_
        refine hw_Si (As := [.int x4, .int 0, .int 3]) (rest := []) C T (c_H_isWithin) (va_cwS 3 hts gX1_sector_X1_isWithin rfl rfl rfl (by decide +kernel) ⟨Nat.le_of_ble_eq_true rfl, Nat.le_of_ble_eq_true rfl⟩) hw_ad rfl hl.1 rfl (Nat.le_of_ble_eq_true rfl) dX1_sector_31 ⟨Nat.zero_le _, Nat.zero_le _⟩ (fun H locs T => ?_)
        refine lv_if_eq (tgt := 49) hx hb dX1_sector_34 (by decide) (fun c_34 => ?_) (fun c_34 => ?_)
        · skip
          refine lv_iconst (v := (-1)) hx hb dX1_sector_49 (by decide) ?_
          have e9 : sp_sector G S n x1 x2 x3 x4 x5 = ((-1), G, S) := by unfold sp_sector; simp only [if_neg c_6, if_neg c_14, if_neg c_24, if_pos c_34]
          exact hw_iret C T rfl (by rw [e9]) (by rw [e9]) dX1_sector_50
        · skip
          refine lv_iload hx hb dX1_sector_37 (lv_at hl 5 rfl) ?_
          refine lv_iconst (v := 0) hx hb dX1_sector_39 (by decide) ?_
          refine lv_sipush (v := 255) hx hb dX1_sector_40 (by decide) ?_
          refine hw_Si (As := [.int x5, .int 0, .int 255]) (rest := []) C T (c_H_isWithin) (va_cwS 3 hts gX1_sector_X1_isWithin rfl rfl rfl (by decide +kernel) ⟨Nat.le_of_ble_eq_true rfl, Nat.le_of_ble_eq_true rfl⟩) hw_ad rfl hl.1 rfl (Nat.le_of_ble_eq_true rfl) dX1_sector_43 ⟨Nat.zero_le _, Nat.zero_le _⟩ (fun H locs T => ?_)
          refine lv_if_ne (tgt := 51) hx hb dX1_sector_46 (by decide) (fun c_46 => ?_) (fun c_46 => ?_)
          · skip
            refine lv_aload_n hx hb dX1_sector_51 rfl (lv_at hl 0 rfl) ?_
            refine va_get (D := D) (ci := 1) (v := .int (G 0)) (C := RX1) (T := TX1) (N := 7) hx hb hts hinH hown hK T.1 0 rfl rfl 1 (by decide) (hts (.fieldLink RX1 20 "MoverHall" "sectorCount" "I") (by decide +kernel)) (fun _ h9 => h9) rfl dX1_sector_52 ?_
            refine lv_istore (lv' := [(6, .int (G 0)), (0, .ref h), (1, .int x1), (2, .int x2), (3, .int x3), (4, .int x4), (5, .int x5)]) hx hb dX1_sector_55 hl (by decide) rfl (fun ls hl => ?_)
            refine lv_aload_n hx hb dX1_sector_57 rfl (lv_at hl 1 rfl) ?_
            refine va_get (D := D) (ci := 1) (v := .ref a) (C := RX1) (T := TX1) (N := 7) hx hb hts hinH hown hK T.1 0 rfl rfl 0 (by decide) (hts (.fieldLink RX1 11 "MoverHall" "sectors" "[LMoverHall$Sector;") (by decide +kernel)) (fun _ h9 => h9) rfl dX1_sector_58 ?_
            refine lv_iload hx hb dX1_sector_61 (lv_at hl 0 rfl) ?_
            have h_63 : vp_in (G 0) 32 := (sx_in0 hG c_6)
            refine va_aldq hx hb hK T.1 1 0 rfl rfl h_63 dX1_sector_63 ?_
            refine W.eq (g2 := F0 m 64 ls [.ref (ad ((G 0).toNatClampNeg))]) rfl ?_
            refine lv_iload_n hx hb dX1_sector_64 rfl (lv_at hl 2 rfl) ?_
            refine lv_iload_n hx hb dX1_sector_65 rfl (lv_at hl 3 rfl) ?_
            refine lv_iload_n hx hb dX1_sector_66 rfl (lv_at hl 4 rfl) ?_
            refine lv_iload hx hb dX1_sector_67 (lv_at hl 5 rfl) ?_
            refine lv_iload hx hb dX1_sector_69 (lv_at hl 6 rfl) ?_
            refine hw_Nv (As := [.int x1, .int x2, .int x3, .int x4, .int x5]) (rest := []) C T (c_S_plan (sx_lt h_63)) ⟨va_cnB 5 hts gX1_sector_X0_plan_n31 rfl rfl rfl (hN (.methodLinkNest RX1 31 yX0_plan "MoverHall") (by decide +kernel)) (hts (.initialized RX0) (by decide +kernel)) (by decide +kernel) ⟨Nat.le_of_ble_eq_true rfl, Nat.le_of_ble_eq_true rfl⟩, hts (.instanceMethod yX0_plan) (by decide +kernel), hts (.selects RX0 yX0_plan yX0_plan) (by decide +kernel)⟩ (hw_isS (sx_lt h_63)) hw_ad rfl hl.1 rfl (Nat.le_of_ble_eq_true rfl) dX1_sector_71 ⟨Nat.zero_le _, Nat.zero_le _⟩ (fun H locs T => ?_)
            refine lv_aload_n hx hb dX1_sector_74 rfl (lv_at hl 1 rfl) ?_
            refine lv_dup hx hb dX1_sector_75 rfl ?_
            refine va_get (D := D) (ci := 1) (v := .int (G 0)) (C := RX1) (T := TX1) (N := 7) hx hb hts hinH hown hK T.1 0 rfl rfl 1 (by decide) (hts (.fieldLink RX1 20 "MoverHall" "sectorCount" "I") (by decide +kernel)) (fun _ h9 => h9) rfl dX1_sector_76 ?_
            refine lv_iconst (v := 1) hx hb dX1_sector_79 (by decide) ?_
            refine lv_iadd hx hb dX1_sector_80 ?_
            refine va_put (D := D) (ci := 1) (v := .int ((G 0) + 1)) (ty := .int) (C := RX1) (T := TX1) (N := 7) hx hb hts hinH tyX1 tyX1_ok nmX1 hown hK T.1 T.2.1 T.2.2 0 rfl rfl 1 (by decide) (hts (.fieldLink RX1 20 "MoverHall" "sectorCount" "I") (by decide +kernel)) (fun _ h9 => h9) rfl (by decide +kernel) rfl rfl (Nat.le_of_ble_eq_true rfl) dX1_sector_81 (fun H locs hP hD hS => ?_)
            have T := hw_setH (k := 0) (v := (G 0) + 1) rfl ⟨hP, hD, hS⟩
            refine lv_aload_n hx hb dX1_sector_84 rfl (lv_at hl 1 rfl) ?_
            refine hw_Vv (As := []) (rest := []) C T (c_H_reset (hg_1 hG c_6)) (cwV 0 hts gX1_sector_X1_reset rfl rfl rfl (by decide +kernel) ⟨Nat.le_of_ble_eq_true rfl, Nat.le_of_ble_eq_true rfl⟩) hw_isH hw_ad rfl hl.1 rfl (Nat.le_of_ble_eq_true rfl) dX1_sector_85 ⟨Nat.zero_le _, Nat.zero_le _⟩ (fun H locs T => ?_)
            refine lv_iload hx hb dX1_sector_88 (lv_at hl 0 rfl) ?_
            have e9 : sp_sector G S n x1 x2 x3 x4 x5 = (G 0, (sp_reset (upd G 0 ((G 0) + 1)) (sp_plan S ((G 0).toNatClampNeg) x1 x2 x3 x4 x5) (n + 1)).1, (sp_reset (upd G 0 ((G 0) + 1)) (sp_plan S ((G 0).toNatClampNeg) x1 x2 x3 x4 x5) (n + 1)).2) := by unfold sp_sector; simp only [if_neg c_6, if_neg c_14, if_neg c_24, if_neg c_34, if_neg c_46]
            exact hw_iret C T rfl (by rw [e9]) (by rw [e9]) dX1_sector_90
          · skip
            refine lv_iconst (v := (-1)) hx hb dX1_sector_49 (by decide) ?_
            have e9 : sp_sector G S n x1 x2 x3 x4 x5 = ((-1), G, S) := by unfold sp_sector; simp only [if_neg c_6, if_neg c_14, if_neg c_24, if_neg c_34, if_pos c_46]
            exact hw_iret C T rfl (by rw [e9]) (by rw [e9]) dX1_sector_50
/-- join, its picture -/
def sp_join (G : Nat → Int32) (S : Nat → Nat → Int32) (x1 : Int32) (x2 : Int32) : Int32 × (Nat → Int32) × (Nat → Nat → Int32) := if (sp_isSector G x1) = 0 then (0, G, S) else (if (sp_isSector G x2) = 0 then (0, G, S) else (if x1 = x2 then (0, G, S) else (if (sp_hasNeighbour S x1.toNatClampNeg x2) = 0 then (1, upd G 1 ((G 1) + 1), sp_addNeighbour (sp_addNeighbour S x1.toNatClampNeg x2) x2.toNatClampNeg x1) else (0, G, S))))
set_option maxHeartbeats 4000000 in
set_option maxRecDepth 100000 in
theorem c_H_join {x1 : Int32} {x2 : Int32} (hG : hg_n G n) : MI l D ((cA, .object RX0) :: tz) yX1_join wsX1_join { frames := 1, cells := 0, slots := 0, locals := 21 } [.ref h, .int x1, .int x2] (hw_W h a ad cA G S) ((sp_join G S x1 x2).1) (hw_W h a ad cA (sp_join G S x1 x2).2.1 (sp_join G S x1 x2).2.2) := by
  refine MI.start (cc := cX1_join) (maxL := 3) (by decide) rfl (Nat.le_of_ble_eq_true rfl) (fun p e s m args below meth c A ls C T hl => ?_)
  have hx := C.1.1
  have hb := C.1.2.1
  have hml := C.1.2.2.1
  have hown : s.vm.findClass RX1 = some m.cls := C.1.2.2.2.1
  have hts := C.1.2.2.2.2
  have hK := C.2.2.2.1
  have hN := C.2.2.2.2.1
  have hinH : ∀ w ∈ wsX10, w ∈ wsX1_join := by decide +kernel
  have hn32 := hG.1
  have hl : lv_has ls 3 [(0, .ref h), (1, .int x1), (2, .int x2)] := hl
  refine lv_aload_n hx hb dX1_join_0 rfl (lv_at hl 0 rfl) ?_
  refine lv_iload_n hx hb dX1_join_1 rfl (lv_at hl 1 rfl) ?_
  refine hw_Vi (As := [.int x1]) (rest := []) C T (c_H_isSector) (cwV 1 hts gX1_join_X1_isSector rfl rfl rfl (by decide +kernel) ⟨Nat.le_of_ble_eq_true rfl, Nat.le_of_ble_eq_true rfl⟩) hw_isH hw_ad rfl hl.1 rfl (Nat.le_of_ble_eq_true rfl) dX1_join_2 ⟨Nat.zero_le _, Nat.zero_le _⟩ (fun H locs T => ?_)
  refine lv_if_eq (tgt := 34) hx hb dX1_join_5 (by decide) (fun c_5 => ?_) (fun c_5 => ?_)
  · skip
    refine lv_iconst (v := 0) hx hb dX1_join_34 (by decide) ?_
    have e9 : sp_join G S x1 x2 = (0, G, S) := by unfold sp_join; simp only [if_pos c_5]
    exact hw_iret C T (by decide) (by rw [e9]) (by rw [e9]) dX1_join_35
  · skip
    refine lv_aload_n hx hb dX1_join_8 rfl (lv_at hl 0 rfl) ?_
    refine lv_iload_n hx hb dX1_join_9 rfl (lv_at hl 2 rfl) ?_
    refine hw_Vi (As := [.int x2]) (rest := []) C T (c_H_isSector) (cwV 1 hts gX1_join_X1_isSector rfl rfl rfl (by decide +kernel) ⟨Nat.le_of_ble_eq_true rfl, Nat.le_of_ble_eq_true rfl⟩) hw_isH hw_ad rfl hl.1 rfl (Nat.le_of_ble_eq_true rfl) dX1_join_10 ⟨Nat.zero_le _, Nat.zero_le _⟩ (fun H locs T => ?_)
    refine lv_if_eq (tgt := 34) hx hb dX1_join_13 (by decide) (fun c_13 => ?_) (fun c_13 => ?_)
    · skip
      refine lv_iconst (v := 0) hx hb dX1_join_34 (by decide) ?_
      have e9 : sp_join G S x1 x2 = (0, G, S) := by unfold sp_join; simp only [if_neg c_5, if_pos c_13]
      exact hw_iret C T (by decide) (by rw [e9]) (by rw [e9]) dX1_join_35
    · skip
      refine lv_iload_n hx hb dX1_join_16 rfl (lv_at hl 1 rfl) ?_
      refine lv_iload_n hx hb dX1_join_17 rfl (lv_at hl 2 rfl) ?_
      refine lv_icmp_eq (tgt := 34) hx hb dX1_join_18 (by decide) (fun c_18 => ?_) (fun c_18 => ?_)
      · skip
        refine lv_iconst (v := 0) hx hb dX1_join_34 (by decide) ?_
        have e9 : sp_join G S x1 x2 = (0, G, S) := by unfold sp_join; simp only [if_neg c_5, if_neg c_13, if_pos c_18]
        exact hw_iret C T (by decide) (by rw [e9]) (by rw [e9]) dX1_join_35
      · skip
        refine lv_aload_n hx hb dX1_join_21 rfl (lv_at hl 0 rfl) ?_
        refine va_get (D := D) (ci := 1) (v := .ref a) (C := RX1) (T := TX1) (N := 7) hx hb hts hinH hown hK T.1 0 rfl rfl 0 (by decide) (hts (.fieldLink RX1 11 "MoverHall" "sectors" "[LMoverHall$Sector;") (by decide +kernel)) (fun _ h9 => h9) rfl dX1_join_22 ?_
        refine lv_iload_n hx hb dX1_join_25 rfl (lv_at hl 1 rfl) ?_
        have h_26 : vp_in x1 32 := (sx_in hG c_5)
        refine va_aldq hx hb hK T.1 1 0 rfl rfl h_26 dX1_join_26 ?_
        refine W.eq (g2 := F0 m 27 ls [.ref (ad x1.toNatClampNeg)]) rfl ?_
        refine lv_iload_n hx hb dX1_join_27 rfl (lv_at hl 2 rfl) ?_
        refine hw_Ni (As := [.int x2]) (rest := []) C T (c_S_hasNeighbour (sx_lt h_26)) ⟨va_cnB 1 hts gX1_join_X0_hasNeighbour_n42 rfl rfl rfl (hN (.methodLinkNest RX1 42 yX0_hasNeighbour "MoverHall") (by decide +kernel)) (hts (.initialized RX0) (by decide +kernel)) (by decide +kernel) ⟨Nat.le_of_ble_eq_true rfl, Nat.le_of_ble_eq_true rfl⟩, hts (.instanceMethod yX0_hasNeighbour) (by decide +kernel), hts (.selects RX0 yX0_hasNeighbour yX0_hasNeighbour) (by decide +kernel)⟩ (hw_isS (sx_lt h_26)) hw_ad rfl hl.1 rfl (Nat.le_of_ble_eq_true rfl) dX1_join_28 ⟨Nat.zero_le _, Nat.zero_le _⟩ (fun H locs T => ?_)
        refine lv_if_eq (tgt := 36) hx hb dX1_join_31 (by decide) (fun c_31 => ?_) (fun c_31 => ?_)
        · skip
          refine lv_aload_n hx hb dX1_join_36 rfl (lv_at hl 0 rfl) ?_
          refine va_get (D := D) (ci := 1) (v := .ref a) (C := RX1) (T := TX1) (N := 7) hx hb hts hinH hown hK T.1 0 rfl rfl 0 (by decide) (hts (.fieldLink RX1 11 "MoverHall" "sectors" "[LMoverHall$Sector;") (by decide +kernel)) (fun _ h9 => h9) rfl dX1_join_37 ?_
          refine lv_iload_n hx hb dX1_join_40 rfl (lv_at hl 1 rfl) ?_
          have h_41 : vp_in x1 32 := (sx_in hG c_5)
          refine va_aldq hx hb hK T.1 1 0 rfl rfl h_41 dX1_join_41 ?_
          refine W.eq (g2 := F0 m 42 ls [.ref (ad x1.toNatClampNeg)]) rfl ?_
          refine lv_iload_n hx hb dX1_join_42 rfl (lv_at hl 2 rfl) ?_
          refine hw_Nv (As := [.int x2]) (rest := []) C T (c_S_addNeighbour (sx_lt h_41)) ⟨va_cnB 1 hts gX1_join_X0_addNeighbour_n45 rfl rfl rfl (hN (.methodLinkNest RX1 45 yX0_addNeighbour "MoverHall") (by decide +kernel)) (hts (.initialized RX0) (by decide +kernel)) (by decide +kernel) ⟨Nat.le_of_ble_eq_true rfl, Nat.le_of_ble_eq_true rfl⟩, hts (.instanceMethod yX0_addNeighbour) (by decide +kernel), hts (.selects RX0 yX0_addNeighbour yX0_addNeighbour) (by decide +kernel)⟩ (hw_isS (sx_lt h_41)) hw_ad rfl hl.1 rfl (Nat.le_of_ble_eq_true rfl) dX1_join_43 ⟨Nat.zero_le _, Nat.zero_le _⟩ (fun H locs T => ?_)
          refine lv_aload_n hx hb dX1_join_46 rfl (lv_at hl 0 rfl) ?_
          refine va_get (D := D) (ci := 1) (v := .ref a) (C := RX1) (T := TX1) (N := 7) hx hb hts hinH hown hK T.1 0 rfl rfl 0 (by decide) (hts (.fieldLink RX1 11 "MoverHall" "sectors" "[LMoverHall$Sector;") (by decide +kernel)) (fun _ h9 => h9) rfl dX1_join_47 ?_
          refine lv_iload_n hx hb dX1_join_50 rfl (lv_at hl 2 rfl) ?_
          have h_51 : vp_in x2 32 := (sx_in hG c_13)
          refine va_aldq hx hb hK T.1 1 0 rfl rfl h_51 dX1_join_51 ?_
          refine W.eq (g2 := F0 m 52 ls [.ref (ad x2.toNatClampNeg)]) rfl ?_
          refine lv_iload_n hx hb dX1_join_52 rfl (lv_at hl 1 rfl) ?_
          refine hw_Nv (As := [.int x1]) (rest := []) C T (c_S_addNeighbour (sx_lt h_51)) ⟨va_cnB 1 hts gX1_join_X0_addNeighbour_n45 rfl rfl rfl (hN (.methodLinkNest RX1 45 yX0_addNeighbour "MoverHall") (by decide +kernel)) (hts (.initialized RX0) (by decide +kernel)) (by decide +kernel) ⟨Nat.le_of_ble_eq_true rfl, Nat.le_of_ble_eq_true rfl⟩, hts (.instanceMethod yX0_addNeighbour) (by decide +kernel), hts (.selects RX0 yX0_addNeighbour yX0_addNeighbour) (by decide +kernel)⟩ (hw_isS (sx_lt h_51)) hw_ad rfl hl.1 rfl (Nat.le_of_ble_eq_true rfl) dX1_join_53 ⟨Nat.zero_le _, Nat.zero_le _⟩ (fun H locs T => ?_)
          refine lv_aload_n hx hb dX1_join_56 rfl (lv_at hl 0 rfl) ?_
          refine lv_dup hx hb dX1_join_57 rfl ?_
          refine va_get (D := D) (ci := 1) (v := .int (G 1)) (C := RX1) (T := TX1) (N := 7) hx hb hts hinH hown hK T.1 0 rfl rfl 2 (by decide) (hts (.fieldLink RX1 49 "MoverHall" "pairCount" "I") (by decide +kernel)) (fun _ h9 => h9) rfl dX1_join_58 ?_
          refine lv_iconst (v := 1) hx hb dX1_join_61 (by decide) ?_
          refine lv_iadd hx hb dX1_join_62 ?_
          refine va_put (D := D) (ci := 1) (v := .int ((G 1) + 1)) (ty := .int) (C := RX1) (T := TX1) (N := 7) hx hb hts hinH tyX1 tyX1_ok nmX1 hown hK T.1 T.2.1 T.2.2 0 rfl rfl 2 (by decide) (hts (.fieldLink RX1 49 "MoverHall" "pairCount" "I") (by decide +kernel)) (fun _ h9 => h9) rfl (by decide +kernel) rfl rfl (Nat.le_of_ble_eq_true rfl) dX1_join_63 (fun H locs hP hD hS => ?_)
          have T := hw_setH (k := 1) (v := (G 1) + 1) rfl ⟨hP, hD, hS⟩
          refine lv_iconst (v := 1) hx hb dX1_join_66 (by decide) ?_
          have e9 : sp_join G S x1 x2 = (1, upd G 1 ((G 1) + 1), sp_addNeighbour (sp_addNeighbour S x1.toNatClampNeg x2) x2.toNatClampNeg x1) := by unfold sp_join; simp only [if_neg c_5, if_neg c_13, if_neg c_18, if_pos c_31]
          exact hw_iret C T (by decide) (by rw [e9]) (by rw [e9]) dX1_join_67
        · skip
          refine lv_iconst (v := 0) hx hb dX1_join_34 (by decide) ?_
          have e9 : sp_join G S x1 x2 = (0, G, S) := by unfold sp_join; simp only [if_neg c_5, if_neg c_13, if_neg c_18, if_neg c_31]
          exact hw_iret C T (by decide) (by rw [e9]) (by rw [e9]) dX1_join_35
end
