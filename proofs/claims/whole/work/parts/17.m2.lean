section
variable {l : Launch} {D : va_G} {o : Nat} {am : Nat → Nat} {cm : Nat → ClassId} {t0 : ClassId × FieldType} {G : Nat → Int32} {S : Nat → Nat → Int32} {B : Nat → Int32} {n : Nat}
/-- end, its picture -/
def sm_end (S : Nat → Nat → Int32) (x1 : Int32) : Nat → Nat → Int32 := up2 (up2 (up2 S x1.toNatClampNeg 8 (-1)) x1.toNatClampNeg 9 0) x1.toNatClampNeg 11 (-1)
set_option maxHeartbeats 4000000 in
set_option maxRecDepth 100000 in
theorem c_M_end {x1 : Int32} (h1 : vp_in x1 32) : MV l D (t0 :: md_tys cm) yX3_end wsX3_end { frames := 0, cells := 0, slots := 0, locals := 0 } [.ref o, .int x1] (md_W o am cm G S B) (md_W o am cm G (sm_end S x1) B) := by
  refine MV.start (cc := cX3_end) (maxL := 2) (by decide) rfl (Nat.le_of_ble_eq_true rfl) (fun p e s m args below meth c A ls C T hl => ?_)
  have hx := C.1.1
  have hb := C.1.2.1
  have hml := C.1.2.2.1
  have hown : s.vm.findClass RX3 = some m.cls := C.1.2.2.2.1
  have hts := C.1.2.2.2.2
  have hK := C.2.2.2.1
  have hinM : ∀ w ∈ wsX30, w ∈ wsX3_end := fun w h => List.mem_cons_of_mem _ (inX3 w h)
  have hl : lv_has ls 2 [(0, .ref o), (1, .int x1)] := hl
  refine lv_aload_n hx hb dX3_end_0 rfl (lv_at hl 0 rfl) ?_
  refine va_get (D := D) (ci := 2) (v := .ref (am 8)) (C := RX3) (T := TX3) (N := 19) hx hb hts hinM hown hK T.1 0 rfl rfl 11 (by decide) (hts _ (List.mem_cons_of_mem _ k3_f35)) (fun _ h9 => h9) rfl dX3_end_1 ?_
  refine lv_iload_n hx hb dX3_end_4 rfl (lv_at hl 1 rfl) ?_
  refine lv_iconst (v := (-1)) hx hb dX3_end_5 (by decide) ?_
  have h_6 : vp_in x1 32 := h1
  refine va_iast (x := (-1)) hx hb hK T.1 T.2.1 T.2.2 9 9 rfl rfl h_6 dX3_end_6 (fun H locs hP hD hS => ?_)
  have T := md_set8 (i := x1.toNatClampNeg) (v := (-1)) ⟨hP, hD, hS⟩
  refine lv_aload_n hx hb dX3_end_7 rfl (lv_at hl 0 rfl) ?_
  refine va_get (D := D) (ci := 2) (v := .ref (am 9)) (C := RX3) (T := TX3) (N := 19) hx hb hts hinM hown hK T.1 0 rfl rfl 12 (by decide) (hts _ (List.mem_cons_of_mem _ k3_f38)) (fun _ h9 => h9) rfl dX3_end_8 ?_
  refine lv_iload_n hx hb dX3_end_11 rfl (lv_at hl 1 rfl) ?_
  refine lv_iconst (v := 0) hx hb dX3_end_12 (by decide) ?_
  have h_13 : vp_in x1 32 := h1
  refine va_iast (x := 0) hx hb hK T.1 T.2.1 T.2.2 10 10 rfl rfl h_13 dX3_end_13 (fun H locs hP hD hS => ?_)
  have T := md_set9 (i := x1.toNatClampNeg) (v := 0) ⟨hP, hD, hS⟩
  refine lv_aload_n hx hb dX3_end_14 rfl (lv_at hl 0 rfl) ?_
  refine va_get (D := D) (ci := 2) (v := .ref (am 11)) (C := RX3) (T := TX3) (N := 19) hx hb hts hinM hown hK T.1 0 rfl rfl 14 (by decide) (hts _ (List.mem_cons_of_mem _ k3_f44)) (fun _ h9 => h9) rfl dX3_end_15 ?_
  refine lv_iload_n hx hb dX3_end_18 rfl (lv_at hl 1 rfl) ?_
  refine lv_iconst (v := (-1)) hx hb dX3_end_19 (by decide) ?_
  have h_20 : vp_in x1 32 := h1
  refine va_iast (x := (-1)) hx hb hK T.1 T.2.1 T.2.2 12 12 rfl rfl h_20 dX3_end_20 (fun H locs hP hD hS => ?_)
  have T := md_set11 (i := x1.toNatClampNeg) (v := (-1)) ⟨hP, hD, hS⟩
  have e9 : sm_end S x1 = up2 (up2 (up2 S x1.toNatClampNeg 8 (-1)) x1.toNatClampNeg 9 0) x1.toNatClampNeg 11 (-1) := by rfl
  exact hw_vret C T (by rw [e9]) dX3_end_21
/-- await, its picture -/
def sm_await (S : Nat → Nat → Int32) (x1 : Int32) (x2 : Int32) : Nat → Nat → Int32 := up2 (up2 S x1.toNatClampNeg 9 0) x1.toNatClampNeg 10 x2
set_option maxHeartbeats 4000000 in
set_option maxRecDepth 100000 in
theorem c_M_await {x1 : Int32} {x2 : Int32} (h1 : vp_in x1 32) : MV l D (t0 :: md_tys cm) yX3_await wsX3_await { frames := 0, cells := 0, slots := 0, locals := 0 } [.ref o, .int x1, .int x2] (md_W o am cm G S B) (md_W o am cm G (sm_await S x1 x2) B) := by
  refine MV.start (cc := cX3_await) (maxL := 3) (by decide) rfl (Nat.le_of_ble_eq_true rfl) (fun p e s m args below meth c A ls C T hl => ?_)
  have hx := C.1.1
  have hb := C.1.2.1
  have hml := C.1.2.2.1
  have hown : s.vm.findClass RX3 = some m.cls := C.1.2.2.2.1
  have hts := C.1.2.2.2.2
  have hK := C.2.2.2.1
  have hinM : ∀ w ∈ wsX30, w ∈ wsX3_await := fun w h => List.mem_cons_of_mem _ (inX3 w h)
  have hl : lv_has ls 3 [(0, .ref o), (1, .int x1), (2, .int x2)] := hl
  refine lv_aload_n hx hb dX3_await_0 rfl (lv_at hl 0 rfl) ?_
  refine va_get (D := D) (ci := 2) (v := .ref (am 9)) (C := RX3) (T := TX3) (N := 19) hx hb hts hinM hown hK T.1 0 rfl rfl 12 (by decide) (hts _ (List.mem_cons_of_mem _ k3_f38)) (fun _ h9 => h9) rfl dX3_await_1 ?_
  refine lv_iload_n hx hb dX3_await_4 rfl (lv_at hl 1 rfl) ?_
  refine lv_iconst (v := 0) hx hb dX3_await_5 (by decide) ?_
  have h_6 : vp_in x1 32 := h1
  refine va_iast (x := 0) hx hb hK T.1 T.2.1 T.2.2 10 10 rfl rfl h_6 dX3_await_6 (fun H locs hP hD hS => ?_)
  have T := md_set9 (i := x1.toNatClampNeg) (v := 0) ⟨hP, hD, hS⟩
  refine lv_aload_n hx hb dX3_await_7 rfl (lv_at hl 0 rfl) ?_
  refine va_get (D := D) (ci := 2) (v := .ref (am 10)) (C := RX3) (T := TX3) (N := 19) hx hb hts hinM hown hK T.1 0 rfl rfl 13 (by decide) (hts _ (List.mem_cons_of_mem _ k3_f41)) (fun _ h9 => h9) rfl dX3_await_8 ?_
  refine lv_iload_n hx hb dX3_await_11 rfl (lv_at hl 1 rfl) ?_
  refine lv_iload_n hx hb dX3_await_12 rfl (lv_at hl 2 rfl) ?_
  have h_13 : vp_in x1 32 := h1
  refine va_iast (x := x2) hx hb hK T.1 T.2.1 T.2.2 11 11 rfl rfl h_13 dX3_await_13 (fun H locs hP hD hS => ?_)
  have T := md_set10 (i := x1.toNatClampNeg) (v := x2) ⟨hP, hD, hS⟩
  have e9 : sm_await S x1 x2 = up2 (up2 S x1.toNatClampNeg 9 0) x1.toNatClampNeg 10 x2 := by rfl
  exact hw_vret C T (by rw [e9]) dX3_await_14
/-- stepDoor, its picture -/
def sm_stepDoor (G : Nat → Int32) (S : Nat → Nat → Int32) (x1 : Int32) : (Nat → Int32) × (Nat → Nat → Int32) := if (S x1.toNatClampNeg 9) ≤ 0 then (if (S x1.toNatClampNeg 6) ≤ ((S x1.toNatClampNeg 7) + (8 * (S x1.toNatClampNeg 9))) then (if (G 5) = x1 then (if 56 ≤ (((S x1.toNatClampNeg 7) + (8 * (S x1.toNatClampNeg 9))) - (S x1.toNatClampNeg 6)) then (if ((S x1.toNatClampNeg 7) + (8 * (S x1.toNatClampNeg 9))) = ((up2 S x1.toNatClampNeg 7 ((S x1.toNatClampNeg 7) + (8 * (S x1.toNatClampNeg 9)))) x1.toNatClampNeg 6) then (G, sm_end (up2 S x1.toNatClampNeg 7 ((S x1.toNatClampNeg 7) + (8 * (S x1.toNatClampNeg 9)))) x1) else (G, up2 S x1.toNatClampNeg 7 ((S x1.toNatClampNeg 7) + (8 * (S x1.toNatClampNeg 9))))) else (upd G 4 ((G 4) + 1), up2 S x1.toNatClampNeg 9 1)) else (if ((S x1.toNatClampNeg 7) + (8 * (S x1.toNatClampNeg 9))) = ((up2 S x1.toNatClampNeg 7 ((S x1.toNatClampNeg 7) + (8 * (S x1.toNatClampNeg 9)))) x1.toNatClampNeg 6) then (G, sm_end (up2 S x1.toNatClampNeg 7 ((S x1.toNatClampNeg 7) + (8 * (S x1.toNatClampNeg 9)))) x1) else (G, up2 S x1.toNatClampNeg 7 ((S x1.toNatClampNeg 7) + (8 * (S x1.toNatClampNeg 9)))))) else (if (G 5) = x1 then (if 56 ≤ ((S x1.toNatClampNeg 6) - (S x1.toNatClampNeg 6)) then (if (S x1.toNatClampNeg 6) = ((up2 S x1.toNatClampNeg 7 (S x1.toNatClampNeg 6)) x1.toNatClampNeg 6) then (G, sm_end (up2 S x1.toNatClampNeg 7 (S x1.toNatClampNeg 6)) x1) else (G, up2 S x1.toNatClampNeg 7 (S x1.toNatClampNeg 6))) else (upd G 4 ((G 4) + 1), up2 S x1.toNatClampNeg 9 1)) else (if (S x1.toNatClampNeg 6) = ((up2 S x1.toNatClampNeg 7 (S x1.toNatClampNeg 6)) x1.toNatClampNeg 6) then (G, sm_end (up2 S x1.toNatClampNeg 7 (S x1.toNatClampNeg 6)) x1) else (G, up2 S x1.toNatClampNeg 7 (S x1.toNatClampNeg 6))))) else (if ((S x1.toNatClampNeg 7) + (8 * (S x1.toNatClampNeg 9))) ≤ (S x1.toNatClampNeg 11) then (if ((up2 S x1.toNatClampNeg 7 ((S x1.toNatClampNeg 7) + (8 * (S x1.toNatClampNeg 9)))) x1.toNatClampNeg 7) = ((up2 S x1.toNatClampNeg 7 ((S x1.toNatClampNeg 7) + (8 * (S x1.toNatClampNeg 9)))) x1.toNatClampNeg 11) then (G, sm_await (up2 S x1.toNatClampNeg 7 ((S x1.toNatClampNeg 7) + (8 * (S x1.toNatClampNeg 9)))) x1 20) else (G, up2 S x1.toNatClampNeg 7 ((S x1.toNatClampNeg 7) + (8 * (S x1.toNatClampNeg 9))))) else (if ((up2 S x1.toNatClampNeg 7 (S x1.toNatClampNeg 11)) x1.toNatClampNeg 7) = ((up2 S x1.toNatClampNeg 7 (S x1.toNatClampNeg 11)) x1.toNatClampNeg 11) then (G, sm_await (up2 S x1.toNatClampNeg 7 (S x1.toNatClampNeg 11)) x1 20) else (G, up2 S x1.toNatClampNeg 7 (S x1.toNatClampNeg 11))))
theorem sm_stepDoor_0 {G : Nat → Int32} {S : Nat → Nat → Int32} {x1 : Int32} : (sm_stepDoor G S x1).1 0 = G 0 := by
  unfold sm_stepDoor
  repeat' split
  all_goals rfl
set_option maxHeartbeats 4000000 in
set_option maxRecDepth 100000 in
theorem c_M_stepDoor {x1 : Int32} (h1 : vp_in x1 32) : MV l D (t0 :: md_tys cm) yX3_stepDoor wsX3_stepDoor { frames := 1, cells := 0, slots := 0, locals := 22 } [.ref o, .int x1] (md_W o am cm G S B) (md_W o am cm (sm_stepDoor G S x1).1 (sm_stepDoor G S x1).2 B) := by
  refine MV.start (cc := cX3_stepDoor) (maxL := 3) (by decide) rfl (Nat.le_of_ble_eq_true rfl) (fun p e s m args below meth c A ls C T hl => ?_)
  have hx := C.1.1
  have hb := C.1.2.1
  have hml := C.1.2.2.1
  have hown : s.vm.findClass RX3 = some m.cls := C.1.2.2.2.1
  have hts := C.1.2.2.2.2
  have hK := C.2.2.2.1
  have hinM : ∀ w ∈ wsX30, w ∈ wsX3_stepDoor := fun w h => List.mem_cons_of_mem _ (inX3 w h)
  have hl : lv_has ls 3 [(0, .ref o), (1, .int x1)] := hl
  refine lv_aload_n hx hb dX3_stepDoor_0 rfl (lv_at hl 0 rfl) ?_
  refine va_get (D := D) (ci := 2) (v := .ref (am 7)) (C := RX3) (T := TX3) (N := 19) hx hb hts hinM hown hK T.1 0 rfl rfl 10 (by decide) (hts _ (List.mem_cons_of_mem _ k3_f32)) (fun _ h9 => h9) rfl dX3_stepDoor_1 ?_
  refine lv_iload_n hx hb dX3_stepDoor_4 rfl (lv_at hl 1 rfl) ?_
  have h_5 : vp_in x1 32 := h1
  refine va_iald hx hb hK T.1 8 8 rfl rfl h_5 dX3_stepDoor_5 ?_
  refine W.eq (g2 := F0 m 6 ls [.int (S x1.toNatClampNeg 7)]) rfl ?_
  refine lv_bipush (v := 8) hx hb dX3_stepDoor_6 (by decide) ?_
  refine lv_aload_n hx hb dX3_stepDoor_8 rfl (lv_at hl 0 rfl) ?_
  refine va_get (D := D) (ci := 2) (v := .ref (am 9)) (C := RX3) (T := TX3) (N := 19) hx hb hts hinM hown hK T.1 0 rfl rfl 12 (by decide) (hts _ (List.mem_cons_of_mem _ k3_f38)) (fun _ h9 => h9) rfl dX3_stepDoor_9 ?_
  refine lv_iload_n hx hb dX3_stepDoor_12 rfl (lv_at hl 1 rfl) ?_
  have h_13 : vp_in x1 32 := h1
  refine va_iald hx hb hK T.1 10 10 rfl rfl h_13 dX3_stepDoor_13 ?_
  refine W.eq (g2 := F0 m 14 ls [.int (S x1.toNatClampNeg 9), .int 8, .int (S x1.toNatClampNeg 7)]) rfl ?_
  refine lv_imul hx hb dX3_stepDoor_14 ?_
  refine lv_iadd hx hb dX3_stepDoor_15 ?_
  refine lv_istore_n (lv' := [(2, .int ((S x1.toNatClampNeg 7) + (8 * (S x1.toNatClampNeg 9)))), (0, .ref o), (1, .int x1)]) hx hb dX3_stepDoor_16 rfl hl (by decide) rfl (fun ls hl => ?_)
  refine lv_aload_n hx hb dX3_stepDoor_17 rfl (lv_at hl 1 rfl) ?_
  refine va_get (D := D) (ci := 2) (v := .ref (am 9)) (C := RX3) (T := TX3) (N := 19) hx hb hts hinM hown hK T.1 0 rfl rfl 12 (by decide) (hts _ (List.mem_cons_of_mem _ k3_f38)) (fun _ h9 => h9) rfl dX3_stepDoor_18 ?_
  refine lv_iload_n hx hb dX3_stepDoor_21 rfl (lv_at hl 2 rfl) ?_
  have h_22 : vp_in x1 32 := h1
  refine va_iald hx hb hK T.1 10 10 rfl rfl h_22 dX3_stepDoor_22 ?_
  refine W.eq (g2 := F0 m 23 ls [.int (S x1.toNatClampNeg 9)]) rfl ?_
  refine lv_if_le (tgt := 75) hx hb dX3_stepDoor_23 (by decide) (fun c_23 => ?_) (fun c_23 => ?_)
  · skip
    refine lv_iload_n hx hb dX3_stepDoor_75 rfl (lv_at hl 0 rfl) ?_
    refine lv_aload_n hx hb dX3_stepDoor_76 rfl (lv_at hl 1 rfl) ?_
    refine va_get (D := D) (ci := 2) (v := .ref (am 6)) (C := RX3) (T := TX3) (N := 19) hx hb hts hinM hown hK T.1 0 rfl rfl 9 (by decide) (hts _ (List.mem_cons_of_mem _ k3_f29)) (fun _ h9 => h9) rfl dX3_stepDoor_77 ?_
    refine lv_iload_n hx hb dX3_stepDoor_80 rfl (lv_at hl 2 rfl) ?_
    have h_81 : vp_in x1 32 := h1
    refine va_iald hx hb hK T.1 7 7 rfl rfl h_81 dX3_stepDoor_81 ?_
    refine W.eq (g2 := F0 m 82 ls [.int (S x1.toNatClampNeg 6), .int ((S x1.toNatClampNeg 7) + (8 * (S x1.toNatClampNeg 9)))]) rfl ?_
    refine lv_icmp_ge (tgt := 94) hx hb dX3_stepDoor_82 (by decide) (fun c_82 => ?_) (fun c_82 => ?_)
    · skip
      refine lv_iload_n hx hb dX3_stepDoor_94 rfl (lv_at hl 0 rfl) ?_
      refine lv_istore_n (lv' := [(2, .int ((S x1.toNatClampNeg 7) + (8 * (S x1.toNatClampNeg 9)))), (0, .ref o), (1, .int x1)]) hx hb dX3_stepDoor_95 rfl hl (by decide) rfl (fun ls hl => ?_)
      refine lv_aload_n hx hb dX3_stepDoor_96 rfl (lv_at hl 1 rfl) ?_
      refine va_get (D := D) (ci := 2) (v := .int (G 5)) (C := RX3) (T := TX3) (N := 19) hx hb hts hinM hown hK T.1 0 rfl rfl 17 (by decide) (hts _ (List.mem_cons_of_mem _ k3_f50)) (fun _ h9 => h9) rfl dX3_stepDoor_97 ?_
      refine lv_iload_n hx hb dX3_stepDoor_100 rfl (lv_at hl 2 rfl) ?_
      refine lv_icmp_ne (tgt := 135) hx hb dX3_stepDoor_101 (by decide) (fun c_101 => ?_) (fun c_101 => ?_)
      · skip
        refine lv_aload_n hx hb dX3_stepDoor_135 rfl (lv_at hl 1 rfl) ?_
        refine va_get (D := D) (ci := 2) (v := .ref (am 7)) (C := RX3) (T := TX3) (N := 19) hx hb hts hinM hown hK T.1 0 rfl rfl 10 (by decide) (hts _ (List.mem_cons_of_mem _ k3_f32)) (fun _ h9 => h9) rfl dX3_stepDoor_136 ?_
        refine lv_iload_n hx hb dX3_stepDoor_139 rfl (lv_at hl 2 rfl) ?_
        refine lv_iload_n hx hb dX3_stepDoor_140 rfl (lv_at hl 0 rfl) ?_
        have h_141 : vp_in x1 32 := h1
        refine va_iast (x := (S x1.toNatClampNeg 7) + (8 * (S x1.toNatClampNeg 9))) hx hb hK T.1 T.2.1 T.2.2 8 8 rfl rfl h_141 dX3_stepDoor_141 (fun H locs hP hD hS => ?_)
        have T := md_set7 (i := x1.toNatClampNeg) (v := (S x1.toNatClampNeg 7) + (8 * (S x1.toNatClampNeg 9))) ⟨hP, hD, hS⟩
        refine lv_iload_n hx hb dX3_stepDoor_142 rfl (lv_at hl 0 rfl) ?_
        refine lv_aload_n hx hb dX3_stepDoor_143 rfl (lv_at hl 1 rfl) ?_
        refine va_get (D := D) (ci := 2) (v := .ref (am 6)) (C := RX3) (T := TX3) (N := 19) hx hb hts hinM hown hK T.1 0 rfl rfl 9 (by decide) (hts _ (List.mem_cons_of_mem _ k3_f29)) (fun _ h9 => h9) rfl dX3_stepDoor_144 ?_
        refine lv_iload_n hx hb dX3_stepDoor_147 rfl (lv_at hl 2 rfl) ?_
        have h_148 : vp_in x1 32 := h1
        refine va_iald hx hb hK T.1 7 7 rfl rfl h_148 dX3_stepDoor_148 ?_
        refine W.eq (g2 := F0 m 149 ls [.int ((up2 S x1.toNatClampNeg 7 ((S x1.toNatClampNeg 7) + (8 * (S x1.toNatClampNeg 9)))) x1.toNatClampNeg 6), .int ((S x1.toNatClampNeg 7) + (8 * (S x1.toNatClampNeg 9)))]) rfl ?_
        refine lv_icmp_ne (tgt := 157) hx hb dX3_stepDoor_149 (by decide) (fun c_149 => ?_) (fun c_149 => ?_)
        · skip
          have e9 : sm_stepDoor G S x1 = (G, up2 S x1.toNatClampNeg 7 ((S x1.toNatClampNeg 7) + (8 * (S x1.toNatClampNeg 9)))) := by unfold sm_stepDoor; simp only [if_pos c_23, if_pos c_82, if_neg c_101, if_neg c_149]
          exact hw_vret C T (by rw [e9]) dX3_stepDoor_157
        · skip
          refine lv_aload_n hx hb dX3_stepDoor_152 rfl (lv_at hl 1 rfl) ?_
          refine lv_iload_n hx hb dX3_stepDoor_153 rfl (lv_at hl 2 rfl) ?_
          refine hw_Vv (As := [.int x1]) (rest := []) C T (c_M_end h1) (cwV 1 hts (x3_in k3_m95 k3_i_end k3_s_end k3_ini k3_c_end) rfl rfl rfl (by decide +kernel) ⟨Nat.le_of_ble_eq_true rfl, Nat.le_of_ble_eq_true rfl⟩) md_isO md_ad rfl hl.1 rfl (Nat.le_of_ble_eq_true rfl) dX3_stepDoor_154 ⟨Nat.zero_le _, Nat.zero_le _⟩ (fun H locs T => ?_)
          have e9 : sm_stepDoor G S x1 = (G, sm_end (up2 S x1.toNatClampNeg 7 ((S x1.toNatClampNeg 7) + (8 * (S x1.toNatClampNeg 9)))) x1) := by unfold sm_stepDoor; simp only [if_pos c_23, if_pos c_82, if_neg c_101, if_pos c_149]
          exact hw_vret C T (by rw [e9]) dX3_stepDoor_157
      · skip
        refine lv_iload_n hx hb dX3_stepDoor_104 rfl (lv_at hl 0 rfl) ?_
        refine lv_aload_n hx hb dX3_stepDoor_105 rfl (lv_at hl 1 rfl) ?_
        refine va_get (D := D) (ci := 2) (v := .ref (am 6)) (C := RX3) (T := TX3) (N := 19) hx hb hts hinM hown hK T.1 0 rfl rfl 9 (by decide) (hts _ (List.mem_cons_of_mem _ k3_f29)) (fun _ h9 => h9) rfl dX3_stepDoor_106 ?_
        refine lv_iload_n hx hb dX3_stepDoor_109 rfl (lv_at hl 2 rfl) ?_
        have h_110 : vp_in x1 32 := h1
        refine va_iald hx hb hK T.1 7 7 rfl rfl h_110 dX3_stepDoor_110 ?_
        refine W.eq (g2 := F0 m 111 ls [.int (S x1.toNatClampNeg 6), .int ((S x1.toNatClampNeg 7) + (8 * (S x1.toNatClampNeg 9)))]) rfl ?_
        refine lv_isub hx hb dX3_stepDoor_111 ?_
        refine lv_bipush (v := 56) hx hb dX3_stepDoor_112 (by decide) ?_
        refine lv_icmp_ge (tgt := 135) hx hb dX3_stepDoor_114 (by decide) (fun c_114 => ?_) (fun c_114 => ?_)
        · skip
          refine lv_aload_n hx hb dX3_stepDoor_135 rfl (lv_at hl 1 rfl) ?_
          refine va_get (D := D) (ci := 2) (v := .ref (am 7)) (C := RX3) (T := TX3) (N := 19) hx hb hts hinM hown hK T.1 0 rfl rfl 10 (by decide) (hts _ (List.mem_cons_of_mem _ k3_f32)) (fun _ h9 => h9) rfl dX3_stepDoor_136 ?_
          refine lv_iload_n hx hb dX3_stepDoor_139 rfl (lv_at hl 2 rfl) ?_
          refine lv_iload_n hx hb dX3_stepDoor_140 rfl (lv_at hl 0 rfl) ?_
          have h_141 : vp_in x1 32 := h1
          refine va_iast (x := (S x1.toNatClampNeg 7) + (8 * (S x1.toNatClampNeg 9))) hx hb hK T.1 T.2.1 T.2.2 8 8 rfl rfl h_141 dX3_stepDoor_141 (fun H locs hP hD hS => ?_)
          have T := md_set7 (i := x1.toNatClampNeg) (v := (S x1.toNatClampNeg 7) + (8 * (S x1.toNatClampNeg 9))) ⟨hP, hD, hS⟩
          refine lv_iload_n hx hb dX3_stepDoor_142 rfl (lv_at hl 0 rfl) ?_
          refine lv_aload_n hx hb dX3_stepDoor_143 rfl (lv_at hl 1 rfl) ?_
          refine va_get (D := D) (ci := 2) (v := .ref (am 6)) (C := RX3) (T := TX3) (N := 19) hx hb hts hinM hown hK T.1 0 rfl rfl 9 (by decide) (hts _ (List.mem_cons_of_mem _ k3_f29)) (fun _ h9 => h9) rfl dX3_stepDoor_144 ?_
          refine lv_iload_n hx hb dX3_stepDoor_147 rfl (lv_at hl 2 rfl) ?_
          have h_148 : vp_in x1 32 := h1
          refine va_iald hx hb hK T.1 7 7 rfl rfl h_148 dX3_stepDoor_148 ?_
          refine W.eq (g2 := F0 m 149 ls [.int ((up2 S x1.toNatClampNeg 7 ((S x1.toNatClampNeg 7) + (8 * (S x1.toNatClampNeg 9)))) x1.toNatClampNeg 6), .int ((S x1.toNatClampNeg 7) + (8 * (S x1.toNatClampNeg 9)))]) rfl ?_
          refine lv_icmp_ne (tgt := 157) hx hb dX3_stepDoor_149 (by decide) (fun c_149 => ?_) (fun c_149 => ?_)
          · skip
            have e9 : sm_stepDoor G S x1 = (G, up2 S x1.toNatClampNeg 7 ((S x1.toNatClampNeg 7) + (8 * (S x1.toNatClampNeg 9)))) := by unfold sm_stepDoor; simp only [if_pos c_23, if_pos c_82, if_pos c_101, if_pos c_114, if_neg c_149]
            exact hw_vret C T (by rw [e9]) dX3_stepDoor_157
          · skip
            refine lv_aload_n hx hb dX3_stepDoor_152 rfl (lv_at hl 1 rfl) ?_
            refine lv_iload_n hx hb dX3_stepDoor_153 rfl (lv_at hl 2 rfl) ?_
            refine hw_Vv (As := [.int x1]) (rest := []) C T (c_M_end h1) (cwV 1 hts (x3_in k3_m95 k3_i_end k3_s_end k3_ini k3_c_end) rfl rfl rfl (by decide +kernel) ⟨Nat.le_of_ble_eq_true rfl, Nat.le_of_ble_eq_true rfl⟩) md_isO md_ad rfl hl.1 rfl (Nat.le_of_ble_eq_true rfl) dX3_stepDoor_154 ⟨Nat.zero_le _, Nat.zero_le _⟩ (fun H locs T => ?_)
            have e9 : sm_stepDoor G S x1 = (G, sm_end (up2 S x1.toNatClampNeg 7 ((S x1.toNatClampNeg 7) + (8 * (S x1.toNatClampNeg 9)))) x1) := by unfold sm_stepDoor; simp only [if_pos c_23, if_pos c_82, if_pos c_101, if_pos c_114, if_pos c_149]
            exact hw_vret C T (by rw [e9]) dX3_stepDoor_157
        · skip
          refine lv_aload_n hx hb dX3_stepDoor_117 rfl (lv_at hl 1 rfl) ?_
          refine lv_dup hx hb dX3_stepDoor_118 rfl ?_
          refine va_get (D := D) (ci := 2) (v := .int (G 4)) (C := RX3) (T := TX3) (N := 19) hx hb hts hinM hown hK T.1 0 rfl rfl 18 (by decide) (hts _ (List.mem_cons_of_mem _ k3_f73)) (fun _ h9 => h9) rfl dX3_stepDoor_119 ?_
          refine lv_iconst (v := 1) hx hb dX3_stepDoor_122 (by decide) ?_
          refine lv_iadd hx hb dX3_stepDoor_123 ?_
          refine va_put (D := D) (ci := 2) (v := .int ((G 4) + 1)) (ty := .int) (C := RX3) (T := TX3) (N := 19) hx hb hts hinM tyX3 tyX3_ok nmX3 hown hK T.1 T.2.1 T.2.2 0 rfl rfl 18 (by decide) (hts _ (List.mem_cons_of_mem _ k3_f73)) (fun _ h9 => h9) rfl (by decide +kernel) rfl rfl (Nat.le_of_ble_eq_true rfl) dX3_stepDoor_124 (fun H locs hP hD hS => ?_)
          have T := md_setG (k := 4) (v := (G 4) + 1) (kk := 18) rfl ⟨hP, hD, hS⟩
          refine lv_aload_n hx hb dX3_stepDoor_127 rfl (lv_at hl 1 rfl) ?_
          refine va_get (D := D) (ci := 2) (v := .ref (am 9)) (C := RX3) (T := TX3) (N := 19) hx hb hts hinM hown hK T.1 0 rfl rfl 12 (by decide) (hts _ (List.mem_cons_of_mem _ k3_f38)) (fun _ h9 => h9) rfl dX3_stepDoor_128 ?_
          refine lv_iload_n hx hb dX3_stepDoor_131 rfl (lv_at hl 2 rfl) ?_
          refine lv_iconst (v := 1) hx hb dX3_stepDoor_132 (by decide) ?_
          have h_133 : vp_in x1 32 := h1
          refine va_iast (x := 1) hx hb hK T.1 T.2.1 T.2.2 10 10 rfl rfl h_133 dX3_stepDoor_133 (fun H locs hP hD hS => ?_)
          have T := md_set9 (i := x1.toNatClampNeg) (v := 1) ⟨hP, hD, hS⟩
          have e9 : sm_stepDoor G S x1 = (upd G 4 ((G 4) + 1), up2 S x1.toNatClampNeg 9 1) := by unfold sm_stepDoor; simp only [if_pos c_23, if_pos c_82, if_pos c_101, if_neg c_114]
          exact hw_vret C T (by rw [e9]) dX3_stepDoor_134
    · skip
      refine lv_aload_n hx hb dX3_stepDoor_85 rfl (lv_at hl 1 rfl) ?_
      refine va_get (D := D) (ci := 2) (v := .ref (am 6)) (C := RX3) (T := TX3) (N := 19) hx hb hts hinM hown hK T.1 0 rfl rfl 9 (by decide) (hts _ (List.mem_cons_of_mem _ k3_f29)) (fun _ h9 => h9) rfl dX3_stepDoor_86 ?_
      refine lv_iload_n hx hb dX3_stepDoor_89 rfl (lv_at hl 2 rfl) ?_
      have h_90 : vp_in x1 32 := h1
      refine va_iald hx hb hK T.1 7 7 rfl rfl h_90 dX3_stepDoor_90 ?_
      refine W.eq (g2 := F0 m 91 ls [.int (S x1.toNatClampNeg 6)]) rfl ?_
      refine lv_goto (tgt := 95) hx hb dX3_stepDoor_91 (by decide) ?_
      refine lv_istore_n (lv' := [(2, .int (S x1.toNatClampNeg 6)), (0, .ref o), (1, .int x1)]) hx hb dX3_stepDoor_95 rfl hl (by decide) rfl (fun ls hl => ?_)
      refine lv_aload_n hx hb dX3_stepDoor_96 rfl (lv_at hl 1 rfl) ?_
      refine va_get (D := D) (ci := 2) (v := .int (G 5)) (C := RX3) (T := TX3) (N := 19) hx hb hts hinM hown hK T.1 0 rfl rfl 17 (by decide) (hts _ (List.mem_cons_of_mem _ k3_f50)) (fun _ h9 => h9) rfl dX3_stepDoor_97 ?_
      refine lv_iload_n hx hb dX3_stepDoor_100 rfl (lv_at hl 2 rfl) ?_
      refine lv_icmp_ne (tgt := 135) hx hb dX3_stepDoor_101 (by decide) (fun c_101 => ?_) (fun c_101 => ?_)
      · skip
        refine lv_aload_n hx hb dX3_stepDoor_135 rfl (lv_at hl 1 rfl) ?_
        refine va_get (D := D) (ci := 2) (v := .ref (am 7)) (C := RX3) (T := TX3) (N := 19) hx hb hts hinM hown hK T.1 0 rfl rfl 10 (by decide) (hts _ (List.mem_cons_of_mem _ k3_f32)) (fun _ h9 => h9) rfl dX3_stepDoor_136 ?_
        refine lv_iload_n hx hb dX3_stepDoor_139 rfl (lv_at hl 2 rfl) ?_
        refine lv_iload_n hx hb dX3_stepDoor_140 rfl (lv_at hl 0 rfl) ?_
        have h_141 : vp_in x1 32 := h1
        refine va_iast (x := S x1.toNatClampNeg 6) hx hb hK T.1 T.2.1 T.2.2 8 8 rfl rfl h_141 dX3_stepDoor_141 (fun H locs hP hD hS => ?_)
        have T := md_set7 (i := x1.toNatClampNeg) (v := S x1.toNatClampNeg 6) ⟨hP, hD, hS⟩
        refine lv_iload_n hx hb dX3_stepDoor_142 rfl (lv_at hl 0 rfl) ?_
        refine lv_aload_n hx hb dX3_stepDoor_143 rfl (lv_at hl 1 rfl) ?_
        refine va_get (D := D) (ci := 2) (v := .ref (am 6)) (C := RX3) (T := TX3) (N := 19) hx hb hts hinM hown hK T.1 0 rfl rfl 9 (by decide) (hts _ (List.mem_cons_of_mem _ k3_f29)) (fun _ h9 => h9) rfl dX3_stepDoor_144 ?_
        refine lv_iload_n hx hb dX3_stepDoor_147 rfl (lv_at hl 2 rfl) ?_
        have h_148 : vp_in x1 32 := h1
        refine va_iald hx hb hK T.1 7 7 rfl rfl h_148 dX3_stepDoor_148 ?_
        refine W.eq (g2 := F0 m 149 ls [.int ((up2 S x1.toNatClampNeg 7 (S x1.toNatClampNeg 6)) x1.toNatClampNeg 6), .int (S x1.toNatClampNeg 6)]) rfl ?_
        refine lv_icmp_ne (tgt := 157) hx hb dX3_stepDoor_149 (by decide) (fun c_149 => ?_) (fun c_149 => ?_)
        · skip
          have e9 : sm_stepDoor G S x1 = (G, up2 S x1.toNatClampNeg 7 (S x1.toNatClampNeg 6)) := by unfold sm_stepDoor; simp only [if_pos c_23, if_neg c_82, if_neg c_101, if_neg c_149]
          exact hw_vret C T (by rw [e9]) dX3_stepDoor_157
        · skip
          refine lv_aload_n hx hb dX3_stepDoor_152 rfl (lv_at hl 1 rfl) ?_
          refine lv_iload_n hx hb dX3_stepDoor_153 rfl (lv_at hl 2 rfl) ?_
          refine hw_Vv (As := [.int x1]) (rest := []) C T (c_M_end h1) (cwV 1 hts (x3_in k3_m95 k3_i_end k3_s_end k3_ini k3_c_end) rfl rfl rfl (by decide +kernel) ⟨Nat.le_of_ble_eq_true rfl, Nat.le_of_ble_eq_true rfl⟩) md_isO md_ad rfl hl.1 rfl (Nat.le_of_ble_eq_true rfl) dX3_stepDoor_154 ⟨Nat.zero_le _, Nat.zero_le _⟩ (fun H locs T => ?_)
          have e9 : sm_stepDoor G S x1 = (G, sm_end (up2 S x1.toNatClampNeg 7 (S x1.toNatClampNeg 6)) x1) := by unfold sm_stepDoor; simp only [if_pos c_23, if_neg c_82, if_neg c_101, if_pos c_149]
          exact hw_vret C T (by rw [e9]) dX3_stepDoor_157
      · skip
        refine lv_iload_n hx hb dX3_stepDoor_104 rfl (lv_at hl 0 rfl) ?_
        refine lv_aload_n hx hb dX3_stepDoor_105 rfl (lv_at hl 1 rfl) ?_
        refine va_get (D := D) (ci := 2) (v := .ref (am 6)) (C := RX3) (T := TX3) (N := 19) hx hb hts hinM hown hK T.1 0 rfl rfl 9 (by decide) (hts _ (List.mem_cons_of_mem _ k3_f29)) (fun _ h9 => h9) rfl dX3_stepDoor_106 ?_
        refine lv_iload_n hx hb dX3_stepDoor_109 rfl (lv_at hl 2 rfl) ?_
        have h_110 : vp_in x1 32 := h1
        refine va_iald hx hb hK T.1 7 7 rfl rfl h_110 dX3_stepDoor_110 ?_
        refine W.eq (g2 := F0 m 111 ls [.int (S x1.toNatClampNeg 6), .int (S x1.toNatClampNeg 6)]) rfl ?_
        refine lv_isub hx hb dX3_stepDoor_111 ?_
        refine lv_bipush (v := 56) hx hb dX3_stepDoor_112 (by decide) ?_
        refine lv_icmp_ge (tgt := 135) hx hb dX3_stepDoor_114 (by decide) (fun c_114 => ?_) (fun c_114 => ?_)
        · skip
          refine lv_aload_n hx hb dX3_stepDoor_135 rfl (lv_at hl 1 rfl) ?_
          refine va_get (D := D) (ci := 2) (v := .ref (am 7)) (C := RX3) (T := TX3) (N := 19) hx hb hts hinM hown hK T.1 0 rfl rfl 10 (by decide) (hts _ (List.mem_cons_of_mem _ k3_f32)) (fun _ h9 => h9) rfl dX3_stepDoor_136 ?_
          refine lv_iload_n hx hb dX3_stepDoor_139 rfl (lv_at hl 2 rfl) ?_
          refine lv_iload_n hx hb dX3_stepDoor_140 rfl (lv_at hl 0 rfl) ?_
          have h_141 : vp_in x1 32 := h1
          refine va_iast (x := S x1.toNatClampNeg 6) hx hb hK T.1 T.2.1 T.2.2 8 8 rfl rfl h_141 dX3_stepDoor_141 (fun H locs hP hD hS => ?_)
          have T := md_set7 (i := x1.toNatClampNeg) (v := S x1.toNatClampNeg 6) ⟨hP, hD, hS⟩
          refine lv_iload_n hx hb dX3_stepDoor_142 rfl (lv_at hl 0 rfl) ?_
          refine lv_aload_n hx hb dX3_stepDoor_143 rfl (lv_at hl 1 rfl) ?_
          refine va_get (D := D) (ci := 2) (v := .ref (am 6)) (C := RX3) (T := TX3) (N := 19) hx hb hts hinM hown hK T.1 0 rfl rfl 9 (by decide) (hts _ (List.mem_cons_of_mem _ k3_f29)) (fun _ h9 => h9) rfl dX3_stepDoor_144 ?_
          refine lv_iload_n hx hb dX3_stepDoor_147 rfl (lv_at hl 2 rfl) ?_
          have h_148 : vp_in x1 32 := h1
          refine va_iald hx hb hK T.1 7 7 rfl rfl h_148 dX3_stepDoor_148 ?_
          refine W.eq (g2 := F0 m 149 ls [.int ((up2 S x1.toNatClampNeg 7 (S x1.toNatClampNeg 6)) x1.toNatClampNeg 6), .int (S x1.toNatClampNeg 6)]) rfl ?_
          refine lv_icmp_ne (tgt := 157) hx hb dX3_stepDoor_149 (by decide) (fun c_149 => ?_) (fun c_149 => ?_)
          · skip
            have e9 : sm_stepDoor G S x1 = (G, up2 S x1.toNatClampNeg 7 (S x1.toNatClampNeg 6)) := by unfold sm_stepDoor; simp only [if_pos c_23, if_neg c_82, if_pos c_101, if_pos c_114, if_neg c_149]
            exact hw_vret C T (by rw [e9]) dX3_stepDoor_157
          · skip
            refine lv_aload_n hx hb dX3_stepDoor_152 rfl (lv_at hl 1 rfl) ?_
            refine lv_iload_n hx hb dX3_stepDoor_153 rfl (lv_at hl 2 rfl) ?_
            refine hw_Vv (As := [.int x1]) (rest := []) C T (c_M_end h1) (cwV 1 hts (x3_in k3_m95 k3_i_end k3_s_end k3_ini k3_c_end) rfl rfl rfl (by decide +kernel) ⟨Nat.le_of_ble_eq_true rfl, Nat.le_of_ble_eq_true rfl⟩) md_isO md_ad rfl hl.1 rfl (Nat.le_of_ble_eq_true rfl) dX3_stepDoor_154 ⟨Nat.zero_le _, Nat.zero_le _⟩ (fun H locs T => ?_)
            have e9 : sm_stepDoor G S x1 = (G, sm_end (up2 S x1.toNatClampNeg 7 (S x1.toNatClampNeg 6)) x1) := by unfold sm_stepDoor; simp only [if_pos c_23, if_neg c_82, if_pos c_101, if_pos c_114, if_pos c_149]
            exact hw_vret C T (by rw [e9]) dX3_stepDoor_157
        · skip
          refine lv_aload_n hx hb dX3_stepDoor_117 rfl (lv_at hl 1 rfl) ?_
          refine lv_dup hx hb dX3_stepDoor_118 rfl ?_
          refine va_get (D := D) (ci := 2) (v := .int (G 4)) (C := RX3) (T := TX3) (N := 19) hx hb hts hinM hown hK T.1 0 rfl rfl 18 (by decide) (hts _ (List.mem_cons_of_mem _ k3_f73)) (fun _ h9 => h9) rfl dX3_stepDoor_119 ?_
          refine lv_iconst (v := 1) hx hb dX3_stepDoor_122 (by decide) ?_
          refine lv_iadd hx hb dX3_stepDoor_123 ?_
          refine va_put (D := D) (ci := 2) (v := .int ((G 4) + 1)) (ty := .int) (C := RX3) (T := TX3) (N := 19) hx hb hts hinM tyX3 tyX3_ok nmX3 hown hK T.1 T.2.1 T.2.2 0 rfl rfl 18 (by decide) (hts _ (List.mem_cons_of_mem _ k3_f73)) (fun _ h9 => h9) rfl (by decide +kernel) rfl rfl (Nat.le_of_ble_eq_true rfl) dX3_stepDoor_124 (fun H locs hP hD hS => ?_)
          have T := md_setG (k := 4) (v := (G 4) + 1) (kk := 18) rfl ⟨hP, hD, hS⟩
          refine lv_aload_n hx hb dX3_stepDoor_127 rfl (lv_at hl 1 rfl) ?_
          refine va_get (D := D) (ci := 2) (v := .ref (am 9)) (C := RX3) (T := TX3) (N := 19) hx hb hts hinM hown hK T.1 0 rfl rfl 12 (by decide) (hts _ (List.mem_cons_of_mem _ k3_f38)) (fun _ h9 => h9) rfl dX3_stepDoor_128 ?_
          refine lv_iload_n hx hb dX3_stepDoor_131 rfl (lv_at hl 2 rfl) ?_
          refine lv_iconst (v := 1) hx hb dX3_stepDoor_132 (by decide) ?_
          have h_133 : vp_in x1 32 := h1
          refine va_iast (x := 1) hx hb hK T.1 T.2.1 T.2.2 10 10 rfl rfl h_133 dX3_stepDoor_133 (fun H locs hP hD hS => ?_)
          have T := md_set9 (i := x1.toNatClampNeg) (v := 1) ⟨hP, hD, hS⟩
          have e9 : sm_stepDoor G S x1 = (upd G 4 ((G 4) + 1), up2 S x1.toNatClampNeg 9 1) := by unfold sm_stepDoor; simp only [if_pos c_23, if_neg c_82, if_pos c_101, if_neg c_114]
          exact hw_vret C T (by rw [e9]) dX3_stepDoor_134
  · skip
    refine lv_aload_n hx hb dX3_stepDoor_26 rfl (lv_at hl 1 rfl) ?_
    refine va_get (D := D) (ci := 2) (v := .ref (am 7)) (C := RX3) (T := TX3) (N := 19) hx hb hts hinM hown hK T.1 0 rfl rfl 10 (by decide) (hts _ (List.mem_cons_of_mem _ k3_f32)) (fun _ h9 => h9) rfl dX3_stepDoor_27 ?_
    refine lv_iload_n hx hb dX3_stepDoor_30 rfl (lv_at hl 2 rfl) ?_
    refine lv_iload_n hx hb dX3_stepDoor_31 rfl (lv_at hl 0 rfl) ?_
    refine lv_aload_n hx hb dX3_stepDoor_32 rfl (lv_at hl 1 rfl) ?_
    refine va_get (D := D) (ci := 2) (v := .ref (am 11)) (C := RX3) (T := TX3) (N := 19) hx hb hts hinM hown hK T.1 0 rfl rfl 14 (by decide) (hts _ (List.mem_cons_of_mem _ k3_f44)) (fun _ h9 => h9) rfl dX3_stepDoor_33 ?_
    refine lv_iload_n hx hb dX3_stepDoor_36 rfl (lv_at hl 2 rfl) ?_
    have h_37 : vp_in x1 32 := h1
    refine va_iald hx hb hK T.1 12 12 rfl rfl h_37 dX3_stepDoor_37 ?_
    refine W.eq (g2 := F0 m 38 ls [.int (S x1.toNatClampNeg 11), .int ((S x1.toNatClampNeg 7) + (8 * (S x1.toNatClampNeg 9))), .int x1, .ref (am 7)]) rfl ?_
    refine lv_icmp_le (tgt := 50) hx hb dX3_stepDoor_38 (by decide) (fun c_38 => ?_) (fun c_38 => ?_)
    · skip
      refine lv_iload_n hx hb dX3_stepDoor_50 rfl (lv_at hl 0 rfl) ?_
      have h_51 : vp_in x1 32 := h1
      refine va_iast (x := (S x1.toNatClampNeg 7) + (8 * (S x1.toNatClampNeg 9))) hx hb hK T.1 T.2.1 T.2.2 8 8 rfl rfl h_51 dX3_stepDoor_51 (fun H locs hP hD hS => ?_)
      have T := md_set7 (i := x1.toNatClampNeg) (v := (S x1.toNatClampNeg 7) + (8 * (S x1.toNatClampNeg 9))) ⟨hP, hD, hS⟩
      refine lv_aload_n hx hb dX3_stepDoor_52 rfl (lv_at hl 1 rfl) ?_
      refine va_get (D := D) (ci := 2) (v := .ref (am 7)) (C := RX3) (T := TX3) (N := 19) hx hb hts hinM hown hK T.1 0 rfl rfl 10 (by decide) (hts _ (List.mem_cons_of_mem _ k3_f32)) (fun _ h9 => h9) rfl dX3_stepDoor_53 ?_
      refine lv_iload_n hx hb dX3_stepDoor_56 rfl (lv_at hl 2 rfl) ?_
      have h_57 : vp_in x1 32 := h1
      refine va_iald hx hb hK T.1 8 8 rfl rfl h_57 dX3_stepDoor_57 ?_
      refine W.eq (g2 := F0 m 58 ls [.int ((up2 S x1.toNatClampNeg 7 ((S x1.toNatClampNeg 7) + (8 * (S x1.toNatClampNeg 9)))) x1.toNatClampNeg 7)]) rfl ?_
      refine lv_aload_n hx hb dX3_stepDoor_58 rfl (lv_at hl 1 rfl) ?_
      refine va_get (D := D) (ci := 2) (v := .ref (am 11)) (C := RX3) (T := TX3) (N := 19) hx hb hts hinM hown hK T.1 0 rfl rfl 14 (by decide) (hts _ (List.mem_cons_of_mem _ k3_f44)) (fun _ h9 => h9) rfl dX3_stepDoor_59 ?_
      refine lv_iload_n hx hb dX3_stepDoor_62 rfl (lv_at hl 2 rfl) ?_
      have h_63 : vp_in x1 32 := h1
      refine va_iald hx hb hK T.1 12 12 rfl rfl h_63 dX3_stepDoor_63 ?_
      refine W.eq (g2 := F0 m 64 ls [.int ((up2 S x1.toNatClampNeg 7 ((S x1.toNatClampNeg 7) + (8 * (S x1.toNatClampNeg 9)))) x1.toNatClampNeg 11), .int ((up2 S x1.toNatClampNeg 7 ((S x1.toNatClampNeg 7) + (8 * (S x1.toNatClampNeg 9)))) x1.toNatClampNeg 7)]) rfl ?_
      refine lv_icmp_ne (tgt := 74) hx hb dX3_stepDoor_64 (by decide) (fun c_64 => ?_) (fun c_64 => ?_)
      · skip
        have e9 : sm_stepDoor G S x1 = (G, up2 S x1.toNatClampNeg 7 ((S x1.toNatClampNeg 7) + (8 * (S x1.toNatClampNeg 9)))) := by unfold sm_stepDoor; simp only [if_neg c_23, if_pos c_38, if_neg c_64]
        exact hw_vret C T (by rw [e9]) dX3_stepDoor_74
      · skip
        refine lv_aload_n hx hb dX3_stepDoor_67 rfl (lv_at hl 1 rfl) ?_
        refine lv_iload_n hx hb dX3_stepDoor_68 rfl (lv_at hl 2 rfl) ?_
        refine lv_bipush (v := 20) hx hb dX3_stepDoor_69 (by decide) ?_
        refine hw_Vv (As := [.int x1, .int 20]) (rest := []) C T (c_M_await h1) (cwV 2 hts (x3_in k3_m91 k3_i_await k3_s_await k3_ini k3_c_await) rfl rfl rfl (by decide +kernel) ⟨Nat.le_of_ble_eq_true rfl, Nat.le_of_ble_eq_true rfl⟩) md_isO md_ad rfl hl.1 rfl (Nat.le_of_ble_eq_true rfl) dX3_stepDoor_71 ⟨Nat.zero_le _, Nat.zero_le _⟩ (fun H locs T => ?_)
        have e9 : sm_stepDoor G S x1 = (G, sm_await (up2 S x1.toNatClampNeg 7 ((S x1.toNatClampNeg 7) + (8 * (S x1.toNatClampNeg 9)))) x1 20) := by unfold sm_stepDoor; simp only [if_neg c_23, if_pos c_38, if_pos c_64]
        exact hw_vret C T (by rw [e9]) dX3_stepDoor_74
    · skip
      refine lv_aload_n hx hb dX3_stepDoor_41 rfl (lv_at hl 1 rfl) ?_
      refine va_get (D := D) (ci := 2) (v := .ref (am 11)) (C := RX3) (T := TX3) (N := 19) hx hb hts hinM hown hK T.1 0 rfl rfl 14 (by decide) (hts _ (List.mem_cons_of_mem _ k3_f44)) (fun _ h9 => h9) rfl dX3_stepDoor_42 ?_
      refine lv_iload_n hx hb dX3_stepDoor_45 rfl (lv_at hl 2 rfl) ?_
      have h_46 : vp_in x1 32 := h1
      refine va_iald hx hb hK T.1 12 12 rfl rfl h_46 dX3_stepDoor_46 ?_
      refine W.eq (g2 := F0 m 47 ls [.int (S x1.toNatClampNeg 11), .int x1, .ref (am 7)]) rfl ?_
      refine lv_goto (tgt := 51) hx hb dX3_stepDoor_47 (by decide) ?_
      have h_51 : vp_in x1 32 := h1
      refine va_iast (x := S x1.toNatClampNeg 11) hx hb hK T.1 T.2.1 T.2.2 8 8 rfl rfl h_51 dX3_stepDoor_51 (fun H locs hP hD hS => ?_)
      have T := md_set7 (i := x1.toNatClampNeg) (v := S x1.toNatClampNeg 11) ⟨hP, hD, hS⟩
      refine lv_aload_n hx hb dX3_stepDoor_52 rfl (lv_at hl 1 rfl) ?_
      refine va_get (D := D) (ci := 2) (v := .ref (am 7)) (C := RX3) (T := TX3) (N := 19) hx hb hts hinM hown hK T.1 0 rfl rfl 10 (by decide) (hts _ (List.mem_cons_of_mem _ k3_f32)) (fun _ h9 => h9) rfl dX3_stepDoor_53 ?_
      refine lv_iload_n hx hb dX3_stepDoor_56 rfl (lv_at hl 2 rfl) ?_
      have h_57 : vp_in x1 32 := h1
      refine va_iald hx hb hK T.1 8 8 rfl rfl h_57 dX3_stepDoor_57 ?_
      refine W.eq (g2 := F0 m 58 ls [.int ((up2 S x1.toNatClampNeg 7 (S x1.toNatClampNeg 11)) x1.toNatClampNeg 7)]) rfl ?_
      refine lv_aload_n hx hb dX3_stepDoor_58 rfl (lv_at hl 1 rfl) ?_
      refine va_get (D := D) (ci := 2) (v := .ref (am 11)) (C := RX3) (T := TX3) (N := 19) hx hb hts hinM hown hK T.1 0 rfl rfl 14 (by decide) (hts _ (List.mem_cons_of_mem _ k3_f44)) (fun _ h9 => h9) rfl dX3_stepDoor_59 ?_
      refine lv_iload_n hx hb dX3_stepDoor_62 rfl (lv_at hl 2 rfl) ?_
      have h_63 : vp_in x1 32 := h1
      refine va_iald hx hb hK T.1 12 12 rfl rfl h_63 dX3_stepDoor_63 ?_
      refine W.eq (g2 := F0 m 64 ls [.int ((up2 S x1.toNatClampNeg 7 (S x1.toNatClampNeg 11)) x1.toNatClampNeg 11), .int ((up2 S x1.toNatClampNeg 7 (S x1.toNatClampNeg 11)) x1.toNatClampNeg 7)]) rfl ?_
      refine lv_icmp_ne (tgt := 74) hx hb dX3_stepDoor_64 (by decide) (fun c_64 => ?_) (fun c_64 => ?_)
      · skip
        have e9 : sm_stepDoor G S x1 = (G, up2 S x1.toNatClampNeg 7 (S x1.toNatClampNeg 11)) := by unfold sm_stepDoor; simp only [if_neg c_23, if_neg c_38, if_neg c_64]
        exact hw_vret C T (by rw [e9]) dX3_stepDoor_74
      · skip
        refine lv_aload_n hx hb dX3_stepDoor_67 rfl (lv_at hl 1 rfl) ?_
        refine lv_iload_n hx hb dX3_stepDoor_68 rfl (lv_at hl 2 rfl) ?_
        refine lv_bipush (v := 20) hx hb dX3_stepDoor_69 (by decide) ?_
        refine hw_Vv (As := [.int x1, .int 20]) (rest := []) C T (c_M_await h1) (cwV 2 hts (x3_in k3_m91 k3_i_await k3_s_await k3_ini k3_c_await) rfl rfl rfl (by decide +kernel) ⟨Nat.le_of_ble_eq_true rfl, Nat.le_of_ble_eq_true rfl⟩) md_isO md_ad rfl hl.1 rfl (Nat.le_of_ble_eq_true rfl) dX3_stepDoor_71 ⟨Nat.zero_le _, Nat.zero_le _⟩ (fun H locs T => ?_)
        have e9 : sm_stepDoor G S x1 = (G, sm_await (up2 S x1.toNatClampNeg 7 (S x1.toNatClampNeg 11)) x1 20) := by unfold sm_stepDoor; simp only [if_neg c_23, if_neg c_38, if_pos c_64]
        exact hw_vret C T (by rw [e9]) dX3_stepDoor_74
/-- rise, its picture -/
def sm_rise (G : Nat → Int32) (S : Nat → Nat → Int32) (x1 : Int32) (x2 : Int32) (x3 : Int32) : (Nat → Int32) × (Nat → Nat → Int32) := if ((S x1.toNatClampNeg 6) + x2) ≤ x3 then (if (G 5) = x1 then (if 56 ≤ ((S x1.toNatClampNeg 7) - ((S x1.toNatClampNeg 6) + x2)) then (if ((S x1.toNatClampNeg 6) + x2) = x3 then (G, sm_end (up2 S x1.toNatClampNeg 6 ((S x1.toNatClampNeg 6) + x2)) x1) else (G, up2 S x1.toNatClampNeg 6 ((S x1.toNatClampNeg 6) + x2))) else (upd G 4 ((G 4) + 1), S)) else (if ((S x1.toNatClampNeg 6) + x2) = x3 then (G, sm_end (up2 S x1.toNatClampNeg 6 ((S x1.toNatClampNeg 6) + x2)) x1) else (G, up2 S x1.toNatClampNeg 6 ((S x1.toNatClampNeg 6) + x2)))) else (if (G 5) = x1 then (if 56 ≤ ((S x1.toNatClampNeg 7) - x3) then (G, sm_end (up2 S x1.toNatClampNeg 6 x3) x1) else (upd G 4 ((G 4) + 1), S)) else (G, sm_end (up2 S x1.toNatClampNeg 6 x3) x1))
theorem sm_rise_0 {G : Nat → Int32} {S : Nat → Nat → Int32} {x1 : Int32} {x2 : Int32} {x3 : Int32} : (sm_rise G S x1 x2 x3).1 0 = G 0 := by
  unfold sm_rise
  repeat' split
  all_goals rfl
set_option maxHeartbeats 4000000 in
set_option maxRecDepth 100000 in
theorem c_M_rise {x1 : Int32} {x2 : Int32} {x3 : Int32} (h1 : vp_in x1 32) : MV l D (t0 :: md_tys cm) yX3_rise wsX3_rise { frames := 1, cells := 0, slots := 0, locals := 21 } [.ref o, .int x1, .int x2, .int x3] (md_W o am cm G S B) (md_W o am cm (sm_rise G S x1 x2 x3).1 (sm_rise G S x1 x2 x3).2 B) := by
  refine MV.start (cc := cX3_rise) (maxL := 5) (by decide) rfl (Nat.le_of_ble_eq_true rfl) (fun p e s m args below meth c A ls C T hl => ?_)
  have hx := C.1.1
  have hb := C.1.2.1
  have hml := C.1.2.2.1
  have hown : s.vm.findClass RX3 = some m.cls := C.1.2.2.2.1
  have hts := C.1.2.2.2.2
  have hK := C.2.2.2.1
  have hinM : ∀ w ∈ wsX30, w ∈ wsX3_rise := fun w h => List.mem_cons_of_mem _ (inX3 w h)
  have hl : lv_has ls 5 [(0, .ref o), (1, .int x1), (2, .int x2), (3, .int x3)] := hl
  refine lv_aload_n hx hb dX3_rise_0 rfl (lv_at hl 0 rfl) ?_
  refine va_get (D := D) (ci := 2) (v := .ref (am 6)) (C := RX3) (T := TX3) (N := 19) hx hb hts hinM hown hK T.1 0 rfl rfl 9 (by decide) (hts _ (List.mem_cons_of_mem _ k3_f29)) (fun _ h9 => h9) rfl dX3_rise_1 ?_
  refine lv_iload_n hx hb dX3_rise_4 rfl (lv_at hl 1 rfl) ?_
  have h_5 : vp_in x1 32 := h1
  refine va_iald hx hb hK T.1 7 7 rfl rfl h_5 dX3_rise_5 ?_
  refine W.eq (g2 := F0 m 6 ls [.int (S x1.toNatClampNeg 6)]) rfl ?_
  refine lv_iload_n hx hb dX3_rise_6 rfl (lv_at hl 2 rfl) ?_
  refine lv_iadd hx hb dX3_rise_7 ?_
  refine lv_iload_n hx hb dX3_rise_8 rfl (lv_at hl 3 rfl) ?_
  refine lv_icmp_le (tgt := 16) hx hb dX3_rise_9 (by decide) (fun c_9 => ?_) (fun c_9 => ?_)
  · skip
    refine lv_aload_n hx hb dX3_rise_16 rfl (lv_at hl 0 rfl) ?_
    refine va_get (D := D) (ci := 2) (v := .ref (am 6)) (C := RX3) (T := TX3) (N := 19) hx hb hts hinM hown hK T.1 0 rfl rfl 9 (by decide) (hts _ (List.mem_cons_of_mem _ k3_f29)) (fun _ h9 => h9) rfl dX3_rise_17 ?_
    refine lv_iload_n hx hb dX3_rise_20 rfl (lv_at hl 1 rfl) ?_
    have h_21 : vp_in x1 32 := h1
    refine va_iald hx hb hK T.1 7 7 rfl rfl h_21 dX3_rise_21 ?_
    refine W.eq (g2 := F0 m 22 ls [.int (S x1.toNatClampNeg 6)]) rfl ?_
    refine lv_iload_n hx hb dX3_rise_22 rfl (lv_at hl 2 rfl) ?_
    refine lv_iadd hx hb dX3_rise_23 ?_
    refine lv_istore (lv' := [(4, .int ((S x1.toNatClampNeg 6) + x2)), (0, .ref o), (1, .int x1), (2, .int x2), (3, .int x3)]) hx hb dX3_rise_24 hl (by decide) rfl (fun ls hl => ?_)
    refine lv_aload_n hx hb dX3_rise_26 rfl (lv_at hl 1 rfl) ?_
    refine va_get (D := D) (ci := 2) (v := .int (G 5)) (C := RX3) (T := TX3) (N := 19) hx hb hts hinM hown hK T.1 0 rfl rfl 17 (by decide) (hts _ (List.mem_cons_of_mem _ k3_f50)) (fun _ h9 => h9) rfl dX3_rise_27 ?_
    refine lv_iload_n hx hb dX3_rise_30 rfl (lv_at hl 2 rfl) ?_
    refine lv_icmp_ne (tgt := 59) hx hb dX3_rise_31 (by decide) (fun c_31 => ?_) (fun c_31 => ?_)
    · skip
      refine lv_aload_n hx hb dX3_rise_59 rfl (lv_at hl 1 rfl) ?_
      refine va_get (D := D) (ci := 2) (v := .ref (am 6)) (C := RX3) (T := TX3) (N := 19) hx hb hts hinM hown hK T.1 0 rfl rfl 9 (by decide) (hts _ (List.mem_cons_of_mem _ k3_f29)) (fun _ h9 => h9) rfl dX3_rise_60 ?_
      refine lv_iload_n hx hb dX3_rise_63 rfl (lv_at hl 2 rfl) ?_
      refine lv_iload hx hb dX3_rise_64 (lv_at hl 0 rfl) ?_
      have h_66 : vp_in x1 32 := h1
      refine va_iast (x := (S x1.toNatClampNeg 6) + x2) hx hb hK T.1 T.2.1 T.2.2 7 7 rfl rfl h_66 dX3_rise_66 (fun H locs hP hD hS => ?_)
      have T := md_set6 (i := x1.toNatClampNeg) (v := (S x1.toNatClampNeg 6) + x2) ⟨hP, hD, hS⟩
      refine lv_iload hx hb dX3_rise_67 (lv_at hl 0 rfl) ?_
      refine lv_iload_n hx hb dX3_rise_69 rfl (lv_at hl 4 rfl) ?_
      refine lv_icmp_ne (tgt := 78) hx hb dX3_rise_70 (by decide) (fun c_70 => ?_) (fun c_70 => ?_)
      · skip
        have e9 : sm_rise G S x1 x2 x3 = (G, up2 S x1.toNatClampNeg 6 ((S x1.toNatClampNeg 6) + x2)) := by unfold sm_rise; simp only [if_pos c_9, if_neg c_31, if_neg c_70]
        exact hw_vret C T (by rw [e9]) dX3_rise_78
      · skip
        refine lv_aload_n hx hb dX3_rise_73 rfl (lv_at hl 1 rfl) ?_
        refine lv_iload_n hx hb dX3_rise_74 rfl (lv_at hl 2 rfl) ?_
        refine hw_Vv (As := [.int x1]) (rest := []) C T (c_M_end h1) (cwV 1 hts (x3_in k3_m95 k3_i_end k3_s_end k3_ini k3_c_end) rfl rfl rfl (by decide +kernel) ⟨Nat.le_of_ble_eq_true rfl, Nat.le_of_ble_eq_true rfl⟩) md_isO md_ad rfl hl.1 rfl (Nat.le_of_ble_eq_true rfl) dX3_rise_75 ⟨Nat.zero_le _, Nat.zero_le _⟩ (fun H locs T => ?_)
        have e9 : sm_rise G S x1 x2 x3 = (G, sm_end (up2 S x1.toNatClampNeg 6 ((S x1.toNatClampNeg 6) + x2)) x1) := by unfold sm_rise; simp only [if_pos c_9, if_neg c_31, if_pos c_70]
        exact hw_vret C T (by rw [e9]) dX3_rise_78
    · skip
      refine lv_aload_n hx hb dX3_rise_34 rfl (lv_at hl 1 rfl) ?_
      refine va_get (D := D) (ci := 2) (v := .ref (am 7)) (C := RX3) (T := TX3) (N := 19) hx hb hts hinM hown hK T.1 0 rfl rfl 10 (by decide) (hts _ (List.mem_cons_of_mem _ k3_f32)) (fun _ h9 => h9) rfl dX3_rise_35 ?_
      refine lv_iload_n hx hb dX3_rise_38 rfl (lv_at hl 2 rfl) ?_
      have h_39 : vp_in x1 32 := h1
      refine va_iald hx hb hK T.1 8 8 rfl rfl h_39 dX3_rise_39 ?_
      refine W.eq (g2 := F0 m 40 ls [.int (S x1.toNatClampNeg 7)]) rfl ?_
      refine lv_iload hx hb dX3_rise_40 (lv_at hl 0 rfl) ?_
      refine lv_isub hx hb dX3_rise_42 ?_
      refine lv_bipush (v := 56) hx hb dX3_rise_43 (by decide) ?_
      refine lv_icmp_ge (tgt := 59) hx hb dX3_rise_45 (by decide) (fun c_45 => ?_) (fun c_45 => ?_)
      · skip
        refine lv_aload_n hx hb dX3_rise_59 rfl (lv_at hl 1 rfl) ?_
        refine va_get (D := D) (ci := 2) (v := .ref (am 6)) (C := RX3) (T := TX3) (N := 19) hx hb hts hinM hown hK T.1 0 rfl rfl 9 (by decide) (hts _ (List.mem_cons_of_mem _ k3_f29)) (fun _ h9 => h9) rfl dX3_rise_60 ?_
        refine lv_iload_n hx hb dX3_rise_63 rfl (lv_at hl 2 rfl) ?_
        refine lv_iload hx hb dX3_rise_64 (lv_at hl 0 rfl) ?_
        have h_66 : vp_in x1 32 := h1
        refine va_iast (x := (S x1.toNatClampNeg 6) + x2) hx hb hK T.1 T.2.1 T.2.2 7 7 rfl rfl h_66 dX3_rise_66 (fun H locs hP hD hS => ?_)
        have T := md_set6 (i := x1.toNatClampNeg) (v := (S x1.toNatClampNeg 6) + x2) ⟨hP, hD, hS⟩
        refine lv_iload hx hb dX3_rise_67 (lv_at hl 0 rfl) ?_
        refine lv_iload_n hx hb dX3_rise_69 rfl (lv_at hl 4 rfl) ?_
        refine lv_icmp_ne (tgt := 78) hx hb dX3_rise_70 (by decide) (fun c_70 => ?_) (fun c_70 => ?_)
        · skip
          have e9 : sm_rise G S x1 x2 x3 = (G, up2 S x1.toNatClampNeg 6 ((S x1.toNatClampNeg 6) + x2)) := by unfold sm_rise; simp only [if_pos c_9, if_pos c_31, if_pos c_45, if_neg c_70]
          exact hw_vret C T (by rw [e9]) dX3_rise_78
        · skip
          refine lv_aload_n hx hb dX3_rise_73 rfl (lv_at hl 1 rfl) ?_
          refine lv_iload_n hx hb dX3_rise_74 rfl (lv_at hl 2 rfl) ?_
          refine hw_Vv (As := [.int x1]) (rest := []) C T (c_M_end h1) (cwV 1 hts (x3_in k3_m95 k3_i_end k3_s_end k3_ini k3_c_end) rfl rfl rfl (by decide +kernel) ⟨Nat.le_of_ble_eq_true rfl, Nat.le_of_ble_eq_true rfl⟩) md_isO md_ad rfl hl.1 rfl (Nat.le_of_ble_eq_true rfl) dX3_rise_75 ⟨Nat.zero_le _, Nat.zero_le _⟩ (fun H locs T => ?_)
          have e9 : sm_rise G S x1 x2 x3 = (G, sm_end (up2 S x1.toNatClampNeg 6 ((S x1.toNatClampNeg 6) + x2)) x1) := by unfold sm_rise; simp only [if_pos c_9, if_pos c_31, if_pos c_45, if_pos c_70]
          exact hw_vret C T (by rw [e9]) dX3_rise_78
      · skip
        refine lv_aload_n hx hb dX3_rise_48 rfl (lv_at hl 1 rfl) ?_
        refine lv_dup hx hb dX3_rise_49 rfl ?_
        refine va_get (D := D) (ci := 2) (v := .int (G 4)) (C := RX3) (T := TX3) (N := 19) hx hb hts hinM hown hK T.1 0 rfl rfl 18 (by decide) (hts _ (List.mem_cons_of_mem _ k3_f73)) (fun _ h9 => h9) rfl dX3_rise_50 ?_
        refine lv_iconst (v := 1) hx hb dX3_rise_53 (by decide) ?_
        refine lv_iadd hx hb dX3_rise_54 ?_
        refine va_put (D := D) (ci := 2) (v := .int ((G 4) + 1)) (ty := .int) (C := RX3) (T := TX3) (N := 19) hx hb hts hinM tyX3 tyX3_ok nmX3 hown hK T.1 T.2.1 T.2.2 0 rfl rfl 18 (by decide) (hts _ (List.mem_cons_of_mem _ k3_f73)) (fun _ h9 => h9) rfl (by decide +kernel) rfl rfl (Nat.le_of_ble_eq_true rfl) dX3_rise_55 (fun H locs hP hD hS => ?_)
        have T := md_setG (k := 4) (v := (G 4) + 1) (kk := 18) rfl ⟨hP, hD, hS⟩
        have e9 : sm_rise G S x1 x2 x3 = (upd G 4 ((G 4) + 1), S) := by unfold sm_rise; simp only [if_pos c_9, if_pos c_31, if_neg c_45]
        exact hw_vret C T (by rw [e9]) dX3_rise_58
  · skip
    refine lv_iload_n hx hb dX3_rise_12 rfl (lv_at hl 3 rfl) ?_
    refine lv_goto (tgt := 24) hx hb dX3_rise_13 (by decide) ?_
    refine lv_istore (lv' := [(4, .int x3), (0, .ref o), (1, .int x1), (2, .int x2), (3, .int x3)]) hx hb dX3_rise_24 hl (by decide) rfl (fun ls hl => ?_)
    refine lv_aload_n hx hb dX3_rise_26 rfl (lv_at hl 1 rfl) ?_
    refine va_get (D := D) (ci := 2) (v := .int (G 5)) (C := RX3) (T := TX3) (N := 19) hx hb hts hinM hown hK T.1 0 rfl rfl 17 (by decide) (hts _ (List.mem_cons_of_mem _ k3_f50)) (fun _ h9 => h9) rfl dX3_rise_27 ?_
    refine lv_iload_n hx hb dX3_rise_30 rfl (lv_at hl 2 rfl) ?_
    refine lv_icmp_ne (tgt := 59) hx hb dX3_rise_31 (by decide) (fun c_31 => ?_) (fun c_31 => ?_)
    · skip
      refine lv_aload_n hx hb dX3_rise_59 rfl (lv_at hl 1 rfl) ?_
      refine va_get (D := D) (ci := 2) (v := .ref (am 6)) (C := RX3) (T := TX3) (N := 19) hx hb hts hinM hown hK T.1 0 rfl rfl 9 (by decide) (hts _ (List.mem_cons_of_mem _ k3_f29)) (fun _ h9 => h9) rfl dX3_rise_60 ?_
      refine lv_iload_n hx hb dX3_rise_63 rfl (lv_at hl 2 rfl) ?_
      refine lv_iload hx hb dX3_rise_64 (lv_at hl 0 rfl) ?_
      have h_66 : vp_in x1 32 := h1
      refine va_iast (x := x3) hx hb hK T.1 T.2.1 T.2.2 7 7 rfl rfl h_66 dX3_rise_66 (fun H locs hP hD hS => ?_)
      have T := md_set6 (i := x1.toNatClampNeg) (v := x3) ⟨hP, hD, hS⟩
      refine lv_iload hx hb dX3_rise_67 (lv_at hl 0 rfl) ?_
      refine lv_iload_n hx hb dX3_rise_69 rfl (lv_at hl 4 rfl) ?_
      refine lv_icmp_ne (tgt := 78) hx hb dX3_rise_70 (by decide) (fun c_70 => absurd rfl c_70) (fun _ => ?_)
      refine lv_aload_n hx hb dX3_rise_73 rfl (lv_at hl 1 rfl) ?_
      refine lv_iload_n hx hb dX3_rise_74 rfl (lv_at hl 2 rfl) ?_
      refine hw_Vv (As := [.int x1]) (rest := []) C T (c_M_end h1) (cwV 1 hts (x3_in k3_m95 k3_i_end k3_s_end k3_ini k3_c_end) rfl rfl rfl (by decide +kernel) ⟨Nat.le_of_ble_eq_true rfl, Nat.le_of_ble_eq_true rfl⟩) md_isO md_ad rfl hl.1 rfl (Nat.le_of_ble_eq_true rfl) dX3_rise_75 ⟨Nat.zero_le _, Nat.zero_le _⟩ (fun H locs T => ?_)
      have e9 : sm_rise G S x1 x2 x3 = (G, sm_end (up2 S x1.toNatClampNeg 6 x3) x1) := by unfold sm_rise; simp only [if_neg c_9, if_neg c_31]
      exact hw_vret C T (by rw [e9]) dX3_rise_78
    · skip
      refine lv_aload_n hx hb dX3_rise_34 rfl (lv_at hl 1 rfl) ?_
      refine va_get (D := D) (ci := 2) (v := .ref (am 7)) (C := RX3) (T := TX3) (N := 19) hx hb hts hinM hown hK T.1 0 rfl rfl 10 (by decide) (hts _ (List.mem_cons_of_mem _ k3_f32)) (fun _ h9 => h9) rfl dX3_rise_35 ?_
      refine lv_iload_n hx hb dX3_rise_38 rfl (lv_at hl 2 rfl) ?_
      have h_39 : vp_in x1 32 := h1
      refine va_iald hx hb hK T.1 8 8 rfl rfl h_39 dX3_rise_39 ?_
      refine W.eq (g2 := F0 m 40 ls [.int (S x1.toNatClampNeg 7)]) rfl ?_
      refine lv_iload hx hb dX3_rise_40 (lv_at hl 0 rfl) ?_
      refine lv_isub hx hb dX3_rise_42 ?_
      refine lv_bipush (v := 56) hx hb dX3_rise_43 (by decide) ?_
      refine lv_icmp_ge (tgt := 59) hx hb dX3_rise_45 (by decide) (fun c_45 => ?_) (fun c_45 => ?_)
      · skip
        refine lv_aload_n hx hb dX3_rise_59 rfl (lv_at hl 1 rfl) ?_
        refine va_get (D := D) (ci := 2) (v := .ref (am 6)) (C := RX3) (T := TX3) (N := 19) hx hb hts hinM hown hK T.1 0 rfl rfl 9 (by decide) (hts _ (List.mem_cons_of_mem _ k3_f29)) (fun _ h9 => h9) rfl dX3_rise_60 ?_
        refine lv_iload_n hx hb dX3_rise_63 rfl (lv_at hl 2 rfl) ?_
        refine lv_iload hx hb dX3_rise_64 (lv_at hl 0 rfl) ?_
        have h_66 : vp_in x1 32 := h1
        refine va_iast (x := x3) hx hb hK T.1 T.2.1 T.2.2 7 7 rfl rfl h_66 dX3_rise_66 (fun H locs hP hD hS => ?_)
        have T := md_set6 (i := x1.toNatClampNeg) (v := x3) ⟨hP, hD, hS⟩
        refine lv_iload hx hb dX3_rise_67 (lv_at hl 0 rfl) ?_
        refine lv_iload_n hx hb dX3_rise_69 rfl (lv_at hl 4 rfl) ?_
        refine lv_icmp_ne (tgt := 78) hx hb dX3_rise_70 (by decide) (fun c_70 => absurd rfl c_70) (fun _ => ?_)
        refine lv_aload_n hx hb dX3_rise_73 rfl (lv_at hl 1 rfl) ?_
        refine lv_iload_n hx hb dX3_rise_74 rfl (lv_at hl 2 rfl) ?_
        refine hw_Vv (As := [.int x1]) (rest := []) C T (c_M_end h1) (cwV 1 hts (x3_in k3_m95 k3_i_end k3_s_end k3_ini k3_c_end) rfl rfl rfl (by decide +kernel) ⟨Nat.le_of_ble_eq_true rfl, Nat.le_of_ble_eq_true rfl⟩) md_isO md_ad rfl hl.1 rfl (Nat.le_of_ble_eq_true rfl) dX3_rise_75 ⟨Nat.zero_le _, Nat.zero_le _⟩ (fun H locs T => ?_)
        have e9 : sm_rise G S x1 x2 x3 = (G, sm_end (up2 S x1.toNatClampNeg 6 x3) x1) := by unfold sm_rise; simp only [if_neg c_9, if_pos c_31, if_pos c_45]
        exact hw_vret C T (by rw [e9]) dX3_rise_78
      · skip
        refine lv_aload_n hx hb dX3_rise_48 rfl (lv_at hl 1 rfl) ?_
        refine lv_dup hx hb dX3_rise_49 rfl ?_
        refine va_get (D := D) (ci := 2) (v := .int (G 4)) (C := RX3) (T := TX3) (N := 19) hx hb hts hinM hown hK T.1 0 rfl rfl 18 (by decide) (hts _ (List.mem_cons_of_mem _ k3_f73)) (fun _ h9 => h9) rfl dX3_rise_50 ?_
        refine lv_iconst (v := 1) hx hb dX3_rise_53 (by decide) ?_
        refine lv_iadd hx hb dX3_rise_54 ?_
        refine va_put (D := D) (ci := 2) (v := .int ((G 4) + 1)) (ty := .int) (C := RX3) (T := TX3) (N := 19) hx hb hts hinM tyX3 tyX3_ok nmX3 hown hK T.1 T.2.1 T.2.2 0 rfl rfl 18 (by decide) (hts _ (List.mem_cons_of_mem _ k3_f73)) (fun _ h9 => h9) rfl (by decide +kernel) rfl rfl (Nat.le_of_ble_eq_true rfl) dX3_rise_55 (fun H locs hP hD hS => ?_)
        have T := md_setG (k := 4) (v := (G 4) + 1) (kk := 18) rfl ⟨hP, hD, hS⟩
        have e9 : sm_rise G S x1 x2 x3 = (upd G 4 ((G 4) + 1), S) := by unfold sm_rise; simp only [if_neg c_9, if_pos c_31, if_neg c_45]
        exact hw_vret C T (by rw [e9]) dX3_rise_58
/-- step, its picture -/
def sm_step (G : Nat → Int32) (S : Nat → Nat → Int32) (x1 : Int32) : (Nat → Int32) × (Nat → Nat → Int32) := if (S x1.toNatClampNeg 8) = 0 then ((sm_stepDoor G S x1).1, (sm_stepDoor G S x1).2) else (if (S x1.toNatClampNeg 8) = 2 then ((sm_rise G S x1 2 (S x1.toNatClampNeg 11)).1, (sm_rise G S x1 2 (S x1.toNatClampNeg 11)).2) else (if (S x1.toNatClampNeg 9) ≤ 0 then (if (S x1.toNatClampNeg 11) ≤ ((S x1.toNatClampNeg 6) - 4) then (if ((up2 S x1.toNatClampNeg 6 ((S x1.toNatClampNeg 6) - 4)) x1.toNatClampNeg 6) = ((up2 S x1.toNatClampNeg 6 ((S x1.toNatClampNeg 6) - 4)) x1.toNatClampNeg 11) then (G, sm_await (up2 S x1.toNatClampNeg 6 ((S x1.toNatClampNeg 6) - 4)) x1 30) else (G, up2 S x1.toNatClampNeg 6 ((S x1.toNatClampNeg 6) - 4))) else (if ((up2 S x1.toNatClampNeg 6 (S x1.toNatClampNeg 11)) x1.toNatClampNeg 6) = ((up2 S x1.toNatClampNeg 6 (S x1.toNatClampNeg 11)) x1.toNatClampNeg 11) then (G, sm_await (up2 S x1.toNatClampNeg 6 (S x1.toNatClampNeg 11)) x1 30) else (G, up2 S x1.toNatClampNeg 6 (S x1.toNatClampNeg 11)))) else ((sm_rise G S x1 4 (S x1.toNatClampNeg 12)).1, (sm_rise G S x1 4 (S x1.toNatClampNeg 12)).2)))
theorem sm_step_0 {G : Nat → Int32} {S : Nat → Nat → Int32} {x1 : Int32} : (sm_step G S x1).1 0 = G 0 := by
  unfold sm_step
  repeat' split
  all_goals first | rfl | exact sm_stepDoor_0 | exact sm_rise_0
theorem sm_step_n {G : Nat → Int32} {S : Nat → Nat → Int32} {x1 : Int32} {n : Nat} (h : hg_n G n) : hg_n (sm_step G S x1).1 n := ⟨h.1, by rw [sm_step_0]; exact h.2⟩
set_option maxHeartbeats 4000000 in
set_option maxRecDepth 100000 in
theorem c_M_step {x1 : Int32} (h1 : vp_in x1 32) : MV l D (t0 :: md_tys cm) yX3_step wsX3_step { frames := 2, cells := 0, slots := 0, locals := 45 } [.ref o, .int x1] (md_W o am cm G S B) (md_W o am cm (sm_step G S x1).1 (sm_step G S x1).2 B) := by
  refine MV.start (cc := cX3_step) (maxL := 2) (by decide) rfl (Nat.le_of_ble_eq_true rfl) (fun p e s m args below meth c A ls C T hl => ?_)
  have hx := C.1.1
  have hb := C.1.2.1
  have hml := C.1.2.2.1
  have hown : s.vm.findClass RX3 = some m.cls := C.1.2.2.2.1
  have hts := C.1.2.2.2.2
  have hK := C.2.2.2.1
  have hinM : ∀ w ∈ wsX30, w ∈ wsX3_step := fun w h => List.mem_cons_of_mem _ (inX3 w h)
  have hl : lv_has ls 2 [(0, .ref o), (1, .int x1)] := hl
  refine lv_aload_n hx hb dX3_step_0 rfl (lv_at hl 0 rfl) ?_
  refine va_get (D := D) (ci := 2) (v := .ref (am 8)) (C := RX3) (T := TX3) (N := 19) hx hb hts hinM hown hK T.1 0 rfl rfl 11 (by decide) (hts _ (List.mem_cons_of_mem _ k3_f35)) (fun _ h9 => h9) rfl dX3_step_1 ?_
  refine lv_iload_n hx hb dX3_step_4 rfl (lv_at hl 1 rfl) ?_
  have h_5 : vp_in x1 32 := h1
  refine va_iald hx hb hK T.1 9 9 rfl rfl h_5 dX3_step_5 ?_
  refine W.eq (g2 := F0 m 6 ls [.int (S x1.toNatClampNeg 8)]) rfl ?_
  refine lv_if_ne (tgt := 17) hx hb dX3_step_6 (by decide) (fun c_6 => ?_) (fun c_6 => ?_)
  · skip
    refine lv_aload_n hx hb dX3_step_17 rfl (lv_at hl 0 rfl) ?_
    refine va_get (D := D) (ci := 2) (v := .ref (am 8)) (C := RX3) (T := TX3) (N := 19) hx hb hts hinM hown hK T.1 0 rfl rfl 11 (by decide) (hts _ (List.mem_cons_of_mem _ k3_f35)) (fun _ h9 => h9) rfl dX3_step_18 ?_
    refine lv_iload_n hx hb dX3_step_21 rfl (lv_at hl 1 rfl) ?_
    have h_22 : vp_in x1 32 := h1
    refine va_iald hx hb hK T.1 9 9 rfl rfl h_22 dX3_step_22 ?_
    refine W.eq (g2 := F0 m 23 ls [.int (S x1.toNatClampNeg 8)]) rfl ?_
    refine lv_iconst (v := 2) hx hb dX3_step_23 (by decide) ?_
    refine lv_icmp_ne (tgt := 42) hx hb dX3_step_24 (by decide) (fun c_24 => ?_) (fun c_24 => ?_)
    · skip
      refine lv_aload_n hx hb dX3_step_42 rfl (lv_at hl 0 rfl) ?_
      refine va_get (D := D) (ci := 2) (v := .ref (am 9)) (C := RX3) (T := TX3) (N := 19) hx hb hts hinM hown hK T.1 0 rfl rfl 12 (by decide) (hts _ (List.mem_cons_of_mem _ k3_f38)) (fun _ h9 => h9) rfl dX3_step_43 ?_
      refine lv_iload_n hx hb dX3_step_46 rfl (lv_at hl 1 rfl) ?_
      have h_47 : vp_in x1 32 := h1
      refine va_iald hx hb hK T.1 10 10 rfl rfl h_47 dX3_step_47 ?_
      refine W.eq (g2 := F0 m 48 ls [.int (S x1.toNatClampNeg 9)]) rfl ?_
      refine lv_if_le (tgt := 66) hx hb dX3_step_48 (by decide) (fun c_48 => ?_) (fun c_48 => ?_)
      · skip
        refine lv_aload_n hx hb dX3_step_66 rfl (lv_at hl 0 rfl) ?_
        refine va_get (D := D) (ci := 2) (v := .ref (am 6)) (C := RX3) (T := TX3) (N := 19) hx hb hts hinM hown hK T.1 0 rfl rfl 9 (by decide) (hts _ (List.mem_cons_of_mem _ k3_f29)) (fun _ h9 => h9) rfl dX3_step_67 ?_
        refine lv_iload_n hx hb dX3_step_70 rfl (lv_at hl 1 rfl) ?_
        refine lv_aload_n hx hb dX3_step_71 rfl (lv_at hl 0 rfl) ?_
        refine va_get (D := D) (ci := 2) (v := .ref (am 6)) (C := RX3) (T := TX3) (N := 19) hx hb hts hinM hown hK T.1 0 rfl rfl 9 (by decide) (hts _ (List.mem_cons_of_mem _ k3_f29)) (fun _ h9 => h9) rfl dX3_step_72 ?_
        refine lv_iload_n hx hb dX3_step_75 rfl (lv_at hl 1 rfl) ?_
        have h_76 : vp_in x1 32 := h1
        refine va_iald hx hb hK T.1 7 7 rfl rfl h_76 dX3_step_76 ?_
        refine W.eq (g2 := F0 m 77 ls [.int (S x1.toNatClampNeg 6), .int x1, .ref (am 6)]) rfl ?_
        refine lv_iconst (v := 4) hx hb dX3_step_77 (by decide) ?_
        refine lv_isub hx hb dX3_step_78 ?_
        refine lv_aload_n hx hb dX3_step_79 rfl (lv_at hl 0 rfl) ?_
        refine va_get (D := D) (ci := 2) (v := .ref (am 11)) (C := RX3) (T := TX3) (N := 19) hx hb hts hinM hown hK T.1 0 rfl rfl 14 (by decide) (hts _ (List.mem_cons_of_mem _ k3_f44)) (fun _ h9 => h9) rfl dX3_step_80 ?_
        refine lv_iload_n hx hb dX3_step_83 rfl (lv_at hl 1 rfl) ?_
        have h_84 : vp_in x1 32 := h1
        refine va_iald hx hb hK T.1 12 12 rfl rfl h_84 dX3_step_84 ?_
        refine W.eq (g2 := F0 m 85 ls [.int (S x1.toNatClampNeg 11), .int ((S x1.toNatClampNeg 6) - 4), .int x1, .ref (am 6)]) rfl ?_
        refine lv_icmp_ge (tgt := 97) hx hb dX3_step_85 (by decide) (fun c_85 => ?_) (fun c_85 => ?_)
        · skip
          refine lv_aload_n hx hb dX3_step_97 rfl (lv_at hl 0 rfl) ?_
          refine va_get (D := D) (ci := 2) (v := .ref (am 6)) (C := RX3) (T := TX3) (N := 19) hx hb hts hinM hown hK T.1 0 rfl rfl 9 (by decide) (hts _ (List.mem_cons_of_mem _ k3_f29)) (fun _ h9 => h9) rfl dX3_step_98 ?_
          refine lv_iload_n hx hb dX3_step_101 rfl (lv_at hl 1 rfl) ?_
          have h_102 : vp_in x1 32 := h1
          refine va_iald hx hb hK T.1 7 7 rfl rfl h_102 dX3_step_102 ?_
          refine W.eq (g2 := F0 m 103 ls [.int (S x1.toNatClampNeg 6), .int x1, .ref (am 6)]) rfl ?_
          refine lv_iconst (v := 4) hx hb dX3_step_103 (by decide) ?_
          refine lv_isub hx hb dX3_step_104 ?_
          have h_105 : vp_in x1 32 := h1
          refine va_iast (x := (S x1.toNatClampNeg 6) - 4) hx hb hK T.1 T.2.1 T.2.2 7 7 rfl rfl h_105 dX3_step_105 (fun H locs hP hD hS => ?_)
          have T := md_set6 (i := x1.toNatClampNeg) (v := (S x1.toNatClampNeg 6) - 4) ⟨hP, hD, hS⟩
          refine lv_aload_n hx hb dX3_step_106 rfl (lv_at hl 0 rfl) ?_
          refine va_get (D := D) (ci := 2) (v := .ref (am 6)) (C := RX3) (T := TX3) (N := 19) hx hb hts hinM hown hK T.1 0 rfl rfl 9 (by decide) (hts _ (List.mem_cons_of_mem _ k3_f29)) (fun _ h9 => h9) rfl dX3_step_107 ?_
          refine lv_iload_n hx hb dX3_step_110 rfl (lv_at hl 1 rfl) ?_
          have h_111 : vp_in x1 32 := h1
          refine va_iald hx hb hK T.1 7 7 rfl rfl h_111 dX3_step_111 ?_
          refine W.eq (g2 := F0 m 112 ls [.int ((up2 S x1.toNatClampNeg 6 ((S x1.toNatClampNeg 6) - 4)) x1.toNatClampNeg 6)]) rfl ?_
          refine lv_aload_n hx hb dX3_step_112 rfl (lv_at hl 0 rfl) ?_
          refine va_get (D := D) (ci := 2) (v := .ref (am 11)) (C := RX3) (T := TX3) (N := 19) hx hb hts hinM hown hK T.1 0 rfl rfl 14 (by decide) (hts _ (List.mem_cons_of_mem _ k3_f44)) (fun _ h9 => h9) rfl dX3_step_113 ?_
          refine lv_iload_n hx hb dX3_step_116 rfl (lv_at hl 1 rfl) ?_
          have h_117 : vp_in x1 32 := h1
          refine va_iald hx hb hK T.1 12 12 rfl rfl h_117 dX3_step_117 ?_
          refine W.eq (g2 := F0 m 118 ls [.int ((up2 S x1.toNatClampNeg 6 ((S x1.toNatClampNeg 6) - 4)) x1.toNatClampNeg 11), .int ((up2 S x1.toNatClampNeg 6 ((S x1.toNatClampNeg 6) - 4)) x1.toNatClampNeg 6)]) rfl ?_
          refine lv_icmp_ne (tgt := 128) hx hb dX3_step_118 (by decide) (fun c_118 => ?_) (fun c_118 => ?_)
          · skip
            have e9 : sm_step G S x1 = (G, up2 S x1.toNatClampNeg 6 ((S x1.toNatClampNeg 6) - 4)) := by unfold sm_step; simp only [if_neg c_6, if_neg c_24, if_pos c_48, if_pos c_85, if_neg c_118]
            exact hw_vret C T (by rw [e9]) dX3_step_128
          · skip
            refine lv_aload_n hx hb dX3_step_121 rfl (lv_at hl 0 rfl) ?_
            refine lv_iload_n hx hb dX3_step_122 rfl (lv_at hl 1 rfl) ?_
            refine lv_bipush (v := 30) hx hb dX3_step_123 (by decide) ?_
            refine hw_Vv (As := [.int x1, .int 30]) (rest := []) C T (c_M_await h1) (cwV 2 hts (x3_in k3_m91 k3_i_await k3_s_await k3_ini k3_c_await) rfl rfl rfl (by decide +kernel) ⟨Nat.le_of_ble_eq_true rfl, Nat.le_of_ble_eq_true rfl⟩) md_isO md_ad rfl hl.1 rfl (Nat.le_of_ble_eq_true rfl) dX3_step_125 ⟨Nat.zero_le _, Nat.zero_le _⟩ (fun H locs T => ?_)
            have e9 : sm_step G S x1 = (G, sm_await (up2 S x1.toNatClampNeg 6 ((S x1.toNatClampNeg 6) - 4)) x1 30) := by unfold sm_step; simp only [if_neg c_6, if_neg c_24, if_pos c_48, if_pos c_85, if_pos c_118]
            exact hw_vret C T (by rw [e9]) dX3_step_128
        · skip
          refine lv_aload_n hx hb dX3_step_88 rfl (lv_at hl 0 rfl) ?_
          refine va_get (D := D) (ci := 2) (v := .ref (am 11)) (C := RX3) (T := TX3) (N := 19) hx hb hts hinM hown hK T.1 0 rfl rfl 14 (by decide) (hts _ (List.mem_cons_of_mem _ k3_f44)) (fun _ h9 => h9) rfl dX3_step_89 ?_
          refine lv_iload_n hx hb dX3_step_92 rfl (lv_at hl 1 rfl) ?_
          have h_93 : vp_in x1 32 := h1
          refine va_iald hx hb hK T.1 12 12 rfl rfl h_93 dX3_step_93 ?_
          refine W.eq (g2 := F0 m 94 ls [.int (S x1.toNatClampNeg 11), .int x1, .ref (am 6)]) rfl ?_
          refine lv_goto (tgt := 105) hx hb dX3_step_94 (by decide) ?_
          have h_105 : vp_in x1 32 := h1
          refine va_iast (x := S x1.toNatClampNeg 11) hx hb hK T.1 T.2.1 T.2.2 7 7 rfl rfl h_105 dX3_step_105 (fun H locs hP hD hS => ?_)
          have T := md_set6 (i := x1.toNatClampNeg) (v := S x1.toNatClampNeg 11) ⟨hP, hD, hS⟩
          refine lv_aload_n hx hb dX3_step_106 rfl (lv_at hl 0 rfl) ?_
          refine va_get (D := D) (ci := 2) (v := .ref (am 6)) (C := RX3) (T := TX3) (N := 19) hx hb hts hinM hown hK T.1 0 rfl rfl 9 (by decide) (hts _ (List.mem_cons_of_mem _ k3_f29)) (fun _ h9 => h9) rfl dX3_step_107 ?_
          refine lv_iload_n hx hb dX3_step_110 rfl (lv_at hl 1 rfl) ?_
          have h_111 : vp_in x1 32 := h1
          refine va_iald hx hb hK T.1 7 7 rfl rfl h_111 dX3_step_111 ?_
          refine W.eq (g2 := F0 m 112 ls [.int ((up2 S x1.toNatClampNeg 6 (S x1.toNatClampNeg 11)) x1.toNatClampNeg 6)]) rfl ?_
          refine lv_aload_n hx hb dX3_step_112 rfl (lv_at hl 0 rfl) ?_
          refine va_get (D := D) (ci := 2) (v := .ref (am 11)) (C := RX3) (T := TX3) (N := 19) hx hb hts hinM hown hK T.1 0 rfl rfl 14 (by decide) (hts _ (List.mem_cons_of_mem _ k3_f44)) (fun _ h9 => h9) rfl dX3_step_113 ?_
          refine lv_iload_n hx hb dX3_step_116 rfl (lv_at hl 1 rfl) ?_
          have h_117 : vp_in x1 32 := h1
          refine va_iald hx hb hK T.1 12 12 rfl rfl h_117 dX3_step_117 ?_
          refine W.eq (g2 := F0 m 118 ls [.int ((up2 S x1.toNatClampNeg 6 (S x1.toNatClampNeg 11)) x1.toNatClampNeg 11), .int ((up2 S x1.toNatClampNeg 6 (S x1.toNatClampNeg 11)) x1.toNatClampNeg 6)]) rfl ?_
          refine lv_icmp_ne (tgt := 128) hx hb dX3_step_118 (by decide) (fun c_118 => ?_) (fun c_118 => ?_)
          · skip
            have e9 : sm_step G S x1 = (G, up2 S x1.toNatClampNeg 6 (S x1.toNatClampNeg 11)) := by unfold sm_step; simp only [if_neg c_6, if_neg c_24, if_pos c_48, if_neg c_85, if_neg c_118]
            exact hw_vret C T (by rw [e9]) dX3_step_128
          · skip
            refine lv_aload_n hx hb dX3_step_121 rfl (lv_at hl 0 rfl) ?_
            refine lv_iload_n hx hb dX3_step_122 rfl (lv_at hl 1 rfl) ?_
            refine lv_bipush (v := 30) hx hb dX3_step_123 (by decide) ?_
            refine hw_Vv (As := [.int x1, .int 30]) (rest := []) C T (c_M_await h1) (cwV 2 hts (x3_in k3_m91 k3_i_await k3_s_await k3_ini k3_c_await) rfl rfl rfl (by decide +kernel) ⟨Nat.le_of_ble_eq_true rfl, Nat.le_of_ble_eq_true rfl⟩) md_isO md_ad rfl hl.1 rfl (Nat.le_of_ble_eq_true rfl) dX3_step_125 ⟨Nat.zero_le _, Nat.zero_le _⟩ (fun H locs T => ?_)
            have e9 : sm_step G S x1 = (G, sm_await (up2 S x1.toNatClampNeg 6 (S x1.toNatClampNeg 11)) x1 30) := by unfold sm_step; simp only [if_neg c_6, if_neg c_24, if_pos c_48, if_neg c_85, if_pos c_118]
            exact hw_vret C T (by rw [e9]) dX3_step_128
      · skip
        refine lv_aload_n hx hb dX3_step_51 rfl (lv_at hl 0 rfl) ?_
        refine lv_iload_n hx hb dX3_step_52 rfl (lv_at hl 1 rfl) ?_
        refine lv_iconst (v := 4) hx hb dX3_step_53 (by decide) ?_
        refine lv_aload_n hx hb dX3_step_54 rfl (lv_at hl 0 rfl) ?_
        refine va_get (D := D) (ci := 2) (v := .ref (am 12)) (C := RX3) (T := TX3) (N := 19) hx hb hts hinM hown hK T.1 0 rfl rfl 15 (by decide) (hts _ (List.mem_cons_of_mem _ k3_f47)) (fun _ h9 => h9) rfl dX3_step_55 ?_
        refine lv_iload_n hx hb dX3_step_58 rfl (lv_at hl 1 rfl) ?_
        have h_59 : vp_in x1 32 := h1
        refine va_iald hx hb hK T.1 13 13 rfl rfl h_59 dX3_step_59 ?_
        refine W.eq (g2 := F0 m 60 ls [.int (S x1.toNatClampNeg 12), .int 4, .int x1, .ref o]) rfl ?_
        refine hw_Vv (As := [.int x1, .int 4, .int (S x1.toNatClampNeg 12)]) (rest := []) C T (c_M_rise h1) (cwV 3 hts (x3_in k3_m102 k3_i_rise k3_s_rise k3_ini k3_c_rise) rfl rfl rfl (by decide +kernel) ⟨Nat.le_of_ble_eq_true rfl, Nat.le_of_ble_eq_true rfl⟩) md_isO md_ad rfl hl.1 rfl (Nat.le_of_ble_eq_true rfl) dX3_step_60 ⟨Nat.zero_le _, Nat.zero_le _⟩ (fun H locs T => ?_)
        refine lv_goto (tgt := 128) hx hb dX3_step_63 (by decide) ?_
        have e9 : sm_step G S x1 = ((sm_rise G S x1 4 (S x1.toNatClampNeg 12)).1, (sm_rise G S x1 4 (S x1.toNatClampNeg 12)).2) := by unfold sm_step; simp only [if_neg c_6, if_neg c_24, if_neg c_48]
        exact hw_vret C T (by rw [e9]) dX3_step_128
    · skip
      refine lv_aload_n hx hb dX3_step_27 rfl (lv_at hl 0 rfl) ?_
      refine lv_iload_n hx hb dX3_step_28 rfl (lv_at hl 1 rfl) ?_
      refine lv_iconst (v := 2) hx hb dX3_step_29 (by decide) ?_
      refine lv_aload_n hx hb dX3_step_30 rfl (lv_at hl 0 rfl) ?_
      refine va_get (D := D) (ci := 2) (v := .ref (am 11)) (C := RX3) (T := TX3) (N := 19) hx hb hts hinM hown hK T.1 0 rfl rfl 14 (by decide) (hts _ (List.mem_cons_of_mem _ k3_f44)) (fun _ h9 => h9) rfl dX3_step_31 ?_
      refine lv_iload_n hx hb dX3_step_34 rfl (lv_at hl 1 rfl) ?_
      have h_35 : vp_in x1 32 := h1
      refine va_iald hx hb hK T.1 12 12 rfl rfl h_35 dX3_step_35 ?_
      refine W.eq (g2 := F0 m 36 ls [.int (S x1.toNatClampNeg 11), .int 2, .int x1, .ref o]) rfl ?_
      refine hw_Vv (As := [.int x1, .int 2, .int (S x1.toNatClampNeg 11)]) (rest := []) C T (c_M_rise h1) (cwV 3 hts (x3_in k3_m102 k3_i_rise k3_s_rise k3_ini k3_c_rise) rfl rfl rfl (by decide +kernel) ⟨Nat.le_of_ble_eq_true rfl, Nat.le_of_ble_eq_true rfl⟩) md_isO md_ad rfl hl.1 rfl (Nat.le_of_ble_eq_true rfl) dX3_step_36 ⟨Nat.zero_le _, Nat.zero_le _⟩ (fun H locs T => ?_)
      refine lv_goto (tgt := 128) hx hb dX3_step_39 (by decide) ?_
      have e9 : sm_step G S x1 = ((sm_rise G S x1 2 (S x1.toNatClampNeg 11)).1, (sm_rise G S x1 2 (S x1.toNatClampNeg 11)).2) := by unfold sm_step; simp only [if_neg c_6, if_pos c_24]
      exact hw_vret C T (by rw [e9]) dX3_step_128
  · skip
    refine lv_aload_n hx hb dX3_step_9 rfl (lv_at hl 0 rfl) ?_
    refine lv_iload_n hx hb dX3_step_10 rfl (lv_at hl 1 rfl) ?_
    refine hw_Vv (As := [.int x1]) (rest := []) C T (c_M_stepDoor h1) (cwV 1 hts (x3_in k3_m99 k3_i_stepDoor k3_s_stepDoor k3_ini k3_c_stepDoor) rfl rfl rfl (by decide +kernel) ⟨Nat.le_of_ble_eq_true rfl, Nat.le_of_ble_eq_true rfl⟩) md_isO md_ad rfl hl.1 rfl (Nat.le_of_ble_eq_true rfl) dX3_step_11 ⟨Nat.zero_le _, Nat.zero_le _⟩ (fun H locs T => ?_)
    refine lv_goto (tgt := 128) hx hb dX3_step_14 (by decide) ?_
    have e9 : sm_step G S x1 = ((sm_stepDoor G S x1).1, (sm_stepDoor G S x1).2) := by unfold sm_step; simp only [if_pos c_6]
    exact hw_vret C T (by rw [e9]) dX3_step_128
/-- reset: its loop, by what is left to do -/
def sm_reset_loop (G : Nat → Int32) : Nat → Nat → (Nat → Nat → Int32) → (Nat → Int32) × (Nat → Nat → Int32)
  | 0, _, S => (upd (upd (upd G 2 0) 5 (-1)) 4 0, S)
  | k + 1, i, S => sm_reset_loop G k (i + 1) (up2 (up2 (up2 (up2 (up2 (up2 S i 6 (S i 0)) i 7 ((up2 S i 6 (S i 0)) i 1)) i 8 (-1)) i 9 0) i 10 0) i 11 (-1))
set_option maxHeartbeats 4000000 in
set_option maxRecDepth 100000 in
theorem lp_m_reset {p : Program} {e : Env} {s : State} {m : MethodId} {args : Array Value} {below : List Frame} {meth : Method} {c : Code} {A : Nat → Prop}  (hG : hg_n G n) (C : hw_C p s m args meth c cX3_reset none 2 wsX3_reset yX3_reset.cls D (t0 :: md_tys cm) A) :
    ∀ (k i : Nat) (S : Nat → Nat → Int32), i + k = n → ∀ (ls : Array Slot) (H : Heap) (locs : List Loc), hw_T D A s.heap (md_W o am cm G S B) H locs → lv_has ls 2 [(0, .ref o), (1, .int (nI i))] → W p l e { frames := 0, cells := 0, slots := 0, locals := 0 } s m args below meth c H locs 0 0 (MQ below (va_Qv (fun (_ : Unit) => True) (fun _ t => va_P D vwCl (md_W o am cm (sm_reset_loop G k i S).1 (sm_reset_loop G k i S).2 B) t.heap) A) args s 0 0 A) (F0 m 7 ls []) := by
  have hx := C.1.1
  have hb := C.1.2.1
  have hml := C.1.2.2.1
  have hown : s.vm.findClass RX3 = some m.cls := C.1.2.2.2.1
  have hts := C.1.2.2.2.2
  have hK := C.2.2.2.1
  have hinM : ∀ w ∈ wsX30, w ∈ wsX3_reset := fun w h => List.mem_cons_of_mem _ (inX3 w h)
  have hn32 := hG.1
  intro k
  induction k with
  | zero =>
    intro i S hik ls H locs T hl
    refine lv_iload_n hx hb dX3_reset_7 rfl (lv_at hl 1 rfl) ?_
    refine lv_aload_n hx hb dX3_reset_8 rfl (lv_at hl 0 rfl) ?_
    refine va_get (D := D) (ci := 2) (v := .int (G 0)) (C := RX3) (T := TX3) (N := 19) hx hb hts hinM hown hK T.1 0 rfl rfl 1 (by decide) (hts _ (List.mem_cons_of_mem _ k3_f57)) (fun _ h9 => h9) rfl dX3_reset_9 ?_
    refine lv_icmp_ge (tgt := 73) hx hb dX3_reset_12 (by decide) (fun c_12 => ?_) (fun c_12 => absurd (show G 0 ≤ nI i by rw [hG.2]; exact nI_le (show n ≤ i by omega) (by omega)) c_12)
    refine lv_aload_n hx hb dX3_reset_73 rfl (lv_at hl 0 rfl) ?_
    refine lv_iconst (v := 0) hx hb dX3_reset_74 (by decide) ?_
    refine va_put (D := D) (ci := 2) (v := .int 0) (ty := .int) (C := RX3) (T := TX3) (N := 19) hx hb hts hinM tyX3 tyX3_ok nmX3 hown hK T.1 T.2.1 T.2.2 0 rfl rfl 16 (by decide) (hts _ (List.mem_cons_of_mem _ k3_f70)) (fun _ h9 => h9) rfl (by decide +kernel) rfl rfl (Nat.le_of_ble_eq_true rfl) dX3_reset_75 (fun H locs hP hD hS => ?_)
    have T := md_setG (k := 2) (v := 0) (kk := 16) rfl ⟨hP, hD, hS⟩
    refine lv_aload_n hx hb dX3_reset_78 rfl (lv_at hl 0 rfl) ?_
    refine lv_iconst (v := (-1)) hx hb dX3_reset_79 (by decide) ?_
    refine va_put (D := D) (ci := 2) (v := .int (-1)) (ty := .int) (C := RX3) (T := TX3) (N := 19) hx hb hts hinM tyX3 tyX3_ok nmX3 hown hK T.1 T.2.1 T.2.2 0 rfl rfl 17 (by decide) (hts _ (List.mem_cons_of_mem _ k3_f50)) (fun _ h9 => h9) rfl (by decide +kernel) rfl rfl (Nat.le_of_ble_eq_true rfl) dX3_reset_80 (fun H locs hP hD hS => ?_)
    have T := md_setG (k := 5) (v := (-1)) (kk := 17) rfl ⟨hP, hD, hS⟩
    refine lv_aload_n hx hb dX3_reset_83 rfl (lv_at hl 0 rfl) ?_
    refine lv_iconst (v := 0) hx hb dX3_reset_84 (by decide) ?_
    refine va_put (D := D) (ci := 2) (v := .int 0) (ty := .int) (C := RX3) (T := TX3) (N := 19) hx hb hts hinM tyX3 tyX3_ok nmX3 hown hK T.1 T.2.1 T.2.2 0 rfl rfl 18 (by decide) (hts _ (List.mem_cons_of_mem _ k3_f73)) (fun _ h9 => h9) rfl (by decide +kernel) rfl rfl (Nat.le_of_ble_eq_true rfl) dX3_reset_85 (fun H locs hP hD hS => ?_)
    have T := md_setG (k := 4) (v := 0) (kk := 18) rfl ⟨hP, hD, hS⟩
    have e9 : sm_reset_loop G 0 i S = (upd (upd (upd G 2 0) 5 (-1)) 4 0, S) := by rw [sm_reset_loop]
    exact hw_vret C T (by rw [e9]) dX3_reset_88
  | succ k ih =>
    intro i S hik ls H locs T hl
    refine lv_iload_n hx hb dX3_reset_7 rfl (lv_at hl 1 rfl) ?_
    refine lv_aload_n hx hb dX3_reset_8 rfl (lv_at hl 0 rfl) ?_
    refine va_get (D := D) (ci := 2) (v := .int (G 0)) (C := RX3) (T := TX3) (N := 19) hx hb hts hinM hown hK T.1 0 rfl rfl 1 (by decide) (hts _ (List.mem_cons_of_mem _ k3_f57)) (fun _ h9 => h9) rfl dX3_reset_9 ?_
    refine lv_icmp_ge (tgt := 73) hx hb dX3_reset_12 (by decide) (fun c_12 => absurd c_12 (show ¬ G 0 ≤ nI i by rw [hG.2]; exact nI_ge (show i < n by omega) (by omega))) (fun c_12 => ?_)
    refine lv_aload_n hx hb dX3_reset_15 rfl (lv_at hl 0 rfl) ?_
    refine va_get (D := D) (ci := 2) (v := .ref (am 6)) (C := RX3) (T := TX3) (N := 19) hx hb hts hinM hown hK T.1 0 rfl rfl 9 (by decide) (hts _ (List.mem_cons_of_mem _ k3_f29)) (fun _ h9 => h9) rfl dX3_reset_16 ?_
    refine lv_iload_n hx hb dX3_reset_19 rfl (lv_at hl 1 rfl) ?_
    refine lv_aload_n hx hb dX3_reset_20 rfl (lv_at hl 0 rfl) ?_
    refine va_get (D := D) (ci := 2) (v := .ref (am 0)) (C := RX3) (T := TX3) (N := 19) hx hb hts hinM hown hK T.1 0 rfl rfl 2 (by decide) (hts _ (List.mem_cons_of_mem _ k3_f7)) (fun _ h9 => h9) rfl dX3_reset_21 ?_
    refine lv_iload_n hx hb dX3_reset_24 rfl (lv_at hl 1 rfl) ?_
    have h_25 : vp_in (nI i) 32 := vp_in_nI (show i < 32 by omega) (by decide)
    refine va_iald hx hb hK T.1 1 1 rfl rfl h_25 dX3_reset_25 ?_
    refine W.eq (g2 := F0 m 26 ls [.int (S i 0), .int (nI i), .ref (am 6)]) (by rw [nI_clamp (show i < 2 ^ 31 by omega)] <;> rfl) ?_
    have h_26 : vp_in (nI i) 32 := vp_in_nI (show i < 32 by omega) (by decide)
    refine va_iast (x := S i 0) hx hb hK T.1 T.2.1 T.2.2 7 7 rfl rfl h_26 dX3_reset_26 (fun H locs hP hD hS => ?_)
    rw [nI_clamp (show i < 2 ^ 31 by omega)] at hP hD
    have T := md_set6 (i := i) (v := S i 0) ⟨hP, hD, hS⟩
    refine lv_aload_n hx hb dX3_reset_27 rfl (lv_at hl 0 rfl) ?_
    refine va_get (D := D) (ci := 2) (v := .ref (am 7)) (C := RX3) (T := TX3) (N := 19) hx hb hts hinM hown hK T.1 0 rfl rfl 10 (by decide) (hts _ (List.mem_cons_of_mem _ k3_f32)) (fun _ h9 => h9) rfl dX3_reset_28 ?_
    refine lv_iload_n hx hb dX3_reset_31 rfl (lv_at hl 1 rfl) ?_
    refine lv_aload_n hx hb dX3_reset_32 rfl (lv_at hl 0 rfl) ?_
    refine va_get (D := D) (ci := 2) (v := .ref (am 1)) (C := RX3) (T := TX3) (N := 19) hx hb hts hinM hown hK T.1 0 rfl rfl 3 (by decide) (hts _ (List.mem_cons_of_mem _ k3_f13)) (fun _ h9 => h9) rfl dX3_reset_33 ?_
    refine lv_iload_n hx hb dX3_reset_36 rfl (lv_at hl 1 rfl) ?_
    have h_37 : vp_in (nI i) 32 := vp_in_nI (show i < 32 by omega) (by decide)
    refine va_iald hx hb hK T.1 2 2 rfl rfl h_37 dX3_reset_37 ?_
    refine W.eq (g2 := F0 m 38 ls [.int ((up2 S i 6 (S i 0)) i 1), .int (nI i), .ref (am 7)]) (by rw [nI_clamp (show i < 2 ^ 31 by omega)] <;> rfl) ?_
    have h_38 : vp_in (nI i) 32 := vp_in_nI (show i < 32 by omega) (by decide)
    refine va_iast (x := (up2 S i 6 (S i 0)) i 1) hx hb hK T.1 T.2.1 T.2.2 8 8 rfl rfl h_38 dX3_reset_38 (fun H locs hP hD hS => ?_)
    rw [nI_clamp (show i < 2 ^ 31 by omega)] at hP hD
    have T := md_set7 (i := i) (v := (up2 S i 6 (S i 0)) i 1) ⟨hP, hD, hS⟩
    refine lv_aload_n hx hb dX3_reset_39 rfl (lv_at hl 0 rfl) ?_
    refine va_get (D := D) (ci := 2) (v := .ref (am 8)) (C := RX3) (T := TX3) (N := 19) hx hb hts hinM hown hK T.1 0 rfl rfl 11 (by decide) (hts _ (List.mem_cons_of_mem _ k3_f35)) (fun _ h9 => h9) rfl dX3_reset_40 ?_
    refine lv_iload_n hx hb dX3_reset_43 rfl (lv_at hl 1 rfl) ?_
    refine lv_iconst (v := (-1)) hx hb dX3_reset_44 (by decide) ?_
    have h_45 : vp_in (nI i) 32 := vp_in_nI (show i < 32 by omega) (by decide)
    refine va_iast (x := (-1)) hx hb hK T.1 T.2.1 T.2.2 9 9 rfl rfl h_45 dX3_reset_45 (fun H locs hP hD hS => ?_)
    rw [nI_clamp (show i < 2 ^ 31 by omega)] at hP hD
    have T := md_set8 (i := i) (v := (-1)) ⟨hP, hD, hS⟩
    refine lv_aload_n hx hb dX3_reset_46 rfl (lv_at hl 0 rfl) ?_
    refine va_get (D := D) (ci := 2) (v := .ref (am 9)) (C := RX3) (T := TX3) (N := 19) hx hb hts hinM hown hK T.1 0 rfl rfl 12 (by decide) (hts _ (List.mem_cons_of_mem _ k3_f38)) (fun _ h9 => h9) rfl dX3_reset_47 ?_
    refine lv_iload_n hx hb dX3_reset_50 rfl (lv_at hl 1 rfl) ?_
    refine lv_iconst (v := 0) hx hb dX3_reset_51 (by decide) ?_
    have h_52 : vp_in (nI i) 32 := vp_in_nI (show i < 32 by omega) (by decide)
    refine va_iast (x := 0) hx hb hK T.1 T.2.1 T.2.2 10 10 rfl rfl h_52 dX3_reset_52 (fun H locs hP hD hS => ?_)
    rw [nI_clamp (show i < 2 ^ 31 by omega)] at hP hD
    have T := md_set9 (i := i) (v := 0) ⟨hP, hD, hS⟩
    refine lv_aload_n hx hb dX3_reset_53 rfl (lv_at hl 0 rfl) ?_
    refine va_get (D := D) (ci := 2) (v := .ref (am 10)) (C := RX3) (T := TX3) (N := 19) hx hb hts hinM hown hK T.1 0 rfl rfl 13 (by decide) (hts _ (List.mem_cons_of_mem _ k3_f41)) (fun _ h9 => h9) rfl dX3_reset_54 ?_
    refine lv_iload_n hx hb dX3_reset_57 rfl (lv_at hl 1 rfl) ?_
    refine lv_iconst (v := 0) hx hb dX3_reset_58 (by decide) ?_
    have h_59 : vp_in (nI i) 32 := vp_in_nI (show i < 32 by omega) (by decide)
    refine va_iast (x := 0) hx hb hK T.1 T.2.1 T.2.2 11 11 rfl rfl h_59 dX3_reset_59 (fun H locs hP hD hS => ?_)
    rw [nI_clamp (show i < 2 ^ 31 by omega)] at hP hD
    have T := md_set10 (i := i) (v := 0) ⟨hP, hD, hS⟩
    refine lv_aload_n hx hb dX3_reset_60 rfl (lv_at hl 0 rfl) ?_
    refine va_get (D := D) (ci := 2) (v := .ref (am 11)) (C := RX3) (T := TX3) (N := 19) hx hb hts hinM hown hK T.1 0 rfl rfl 14 (by decide) (hts _ (List.mem_cons_of_mem _ k3_f44)) (fun _ h9 => h9) rfl dX3_reset_61 ?_
    refine lv_iload_n hx hb dX3_reset_64 rfl (lv_at hl 1 rfl) ?_
    refine lv_iconst (v := (-1)) hx hb dX3_reset_65 (by decide) ?_
    have h_66 : vp_in (nI i) 32 := vp_in_nI (show i < 32 by omega) (by decide)
    refine va_iast (x := (-1)) hx hb hK T.1 T.2.1 T.2.2 12 12 rfl rfl h_66 dX3_reset_66 (fun H locs hP hD hS => ?_)
    rw [nI_clamp (show i < 2 ^ 31 by omega)] at hP hD
    have T := md_set11 (i := i) (v := (-1)) ⟨hP, hD, hS⟩
    refine lv_iinc (v := nI (i + 1)) (lv' := [(1, .int (nI (i + 1))), (0, .ref o)]) hx hb dX3_reset_67 hl (k := 1) rfl (nI_1 i) (by decide) rfl (fun ls hl => ?_)
    refine lv_goto (tgt := 7) hx hb dX3_reset_70 (by decide) ?_
    rw [show sm_reset_loop G (k + 1) i S = sm_reset_loop G k (i + 1) (up2 (up2 (up2 (up2 (up2 (up2 S i 6 (S i 0)) i 7 ((up2 S i 6 (S i 0)) i 1)) i 8 (-1)) i 9 0) i 10 0) i 11 (-1)) from by rw [sm_reset_loop]]
    exact ih (i + 1) _ (by omega) _ _ _ T (lv_sub hl [1, 0] rfl)
/-- reset, its picture -/
def sm_reset (G : Nat → Int32) (S : Nat → Nat → Int32) (n : Nat) : (Nat → Int32) × (Nat → Nat → Int32) := sm_reset_loop (upd G 3 0) n 0 S
set_option maxHeartbeats 4000000 in
set_option maxRecDepth 100000 in
theorem c_M_reset  (hG : hg_n G n) : MV l D (t0 :: md_tys cm) yX3_reset wsX3_reset { frames := 0, cells := 0, slots := 0, locals := 0 } [.ref o] (md_W o am cm G S B) (md_W o am cm (sm_reset G S n).1 (sm_reset G S n).2 B) := by
  refine MV.start (cc := cX3_reset) (maxL := 2) (by decide) rfl (Nat.le_of_ble_eq_true rfl) (fun p e s m args below meth c A ls C T hl => ?_)
  have hx := C.1.1
  have hb := C.1.2.1
  have hml := C.1.2.2.1
  have hown : s.vm.findClass RX3 = some m.cls := C.1.2.2.2.1
  have hts := C.1.2.2.2.2
  have hK := C.2.2.2.1
  have hinM : ∀ w ∈ wsX30, w ∈ wsX3_reset := fun w h => List.mem_cons_of_mem _ (inX3 w h)
  have hn32 := hG.1
  have hl : lv_has ls 2 [(0, .ref o)] := hl
  refine lv_aload_n hx hb dX3_reset_0 rfl (lv_at hl 0 rfl) ?_
  refine lv_iconst (v := 0) hx hb dX3_reset_1 (by decide) ?_
  refine va_put (D := D) (ci := 2) (v := .int 0) (ty := .int) (C := RX3) (T := TX3) (N := 19) hx hb hts hinM tyX3 tyX3_ok nmX3 hown hK T.1 T.2.1 T.2.2 0 rfl rfl 0 (by decide) (hts _ (List.mem_cons_of_mem _ k3_f54)) (fun _ h9 => h9) rfl (by decide +kernel) rfl rfl (Nat.le_of_ble_eq_true rfl) dX3_reset_2 (fun H locs hP hD hS => ?_)
  have T := md_setG (k := 3) (v := 0) (kk := 0) rfl ⟨hP, hD, hS⟩
  refine lv_iconst (v := 0) hx hb dX3_reset_5 (by decide) ?_
  refine lv_istore_n (lv' := [(1, .int 0), (0, .ref o)]) hx hb dX3_reset_6 rfl hl (by decide) rfl (fun ls hl => ?_)
  rw [show sm_reset G S n = sm_reset_loop (upd G 3 0) n 0 S from by rfl]
  exact lp_m_reset (hg_up (by decide) hG) C n 0 _ (by omega) _ _ _ T (lv_sub hl [1, 0] rfl)
/-- clear: its loop, by what is left to do -/
def sm_clear_loop (G : Nat → Int32) (S : Nat → Nat → Int32) (n : Nat) : Nat → Nat → (Nat → Int32) → (Nat → Int32) × (Nat → Nat → Int32) × (Nat → Int32)
  | 0, _, B => ((sm_reset G S n).1, (sm_reset G S n).2, B)
  | k + 1, i, B => sm_clear_loop G S n k (i + 1) (upd B i 0)
set_option maxHeartbeats 4000000 in
set_option maxRecDepth 100000 in
theorem lp_m_clear {p : Program} {e : Env} {s : State} {m : MethodId} {args : Array Value} {below : List Frame} {meth : Method} {c : Code} {A : Nat → Prop}   (hG : hg_n G n) (C : hw_C p s m args meth c cX3_clear none 2 wsX3_clear yX3_clear.cls D (t0 :: md_tys cm) A) :
    ∀ (k i : Nat) (B : Nat → Int32), i + k = 1024 → ∀ (ls : Array Slot) (H : Heap) (locs : List Loc), hw_T D A s.heap (md_W o am cm G S B) H locs → lv_has ls 2 [(0, .ref o), (1, .int (nI i))] → W p l e { frames := 1, cells := 0, slots := 0, locals := 21 } s m args below meth c H locs 0 0 (MQ below (va_Qv (fun (_ : Unit) => True) (fun _ t => va_P D vwCl (md_W o am cm (sm_clear_loop G S n k i B).1 (sm_clear_loop G S n k i B).2.1 (sm_clear_loop G S n k i B).2.2) t.heap) A) args s 0 0 A) (F0 m 17 ls []) := by
  have hx := C.1.1
  have hb := C.1.2.1
  have hml := C.1.2.2.1
  have hown : s.vm.findClass RX3 = some m.cls := C.1.2.2.2.1
  have hts := C.1.2.2.2.2
  have hK := C.2.2.2.1
  have hinM : ∀ w ∈ wsX30, w ∈ wsX3_clear := fun w h => List.mem_cons_of_mem _ (inX3 w h)
  intro k
  induction k with
  | zero =>
    intro i B hik ls H locs T hl
    refine lv_iload_n hx hb dX3_clear_17 rfl (lv_at hl 1 rfl) ?_
    refine lv_sipush (v := 1024) hx hb dX3_clear_18 (by decide) ?_
    refine lv_icmp_ge (tgt := 37) hx hb dX3_clear_21 (by decide) (fun c_21 => ?_) (fun c_21 => absurd (show (1024 : Int32) ≤ nI i from nI_le (a := 1024) (by omega) (by omega)) c_21)
    refine lv_aload_n hx hb dX3_clear_37 rfl (lv_at hl 0 rfl) ?_
    refine hw_Vv (As := []) (rest := []) C T (c_M_reset hG) (cwV 0 hts (x3_in k3_m60 k3_i_reset k3_s_reset k3_ini k3_c_reset) rfl rfl rfl (by decide +kernel) ⟨Nat.le_of_ble_eq_true rfl, Nat.le_of_ble_eq_true rfl⟩) md_isO md_ad rfl hl.1 rfl (Nat.le_of_ble_eq_true rfl) dX3_clear_38 ⟨Nat.zero_le _, Nat.zero_le _⟩ (fun H locs T => ?_)
    have e9 : sm_clear_loop G S n 0 i B = ((sm_reset G S n).1, (sm_reset G S n).2, B) := by rw [sm_clear_loop]
    exact hw_vret C T (by rw [e9]) dX3_clear_41
  | succ k ih =>
    intro i B hik ls H locs T hl
    refine lv_iload_n hx hb dX3_clear_17 rfl (lv_at hl 1 rfl) ?_
    refine lv_sipush (v := 1024) hx hb dX3_clear_18 (by decide) ?_
    refine lv_icmp_ge (tgt := 37) hx hb dX3_clear_21 (by decide) (fun c_21 => absurd c_21 (show ¬ (1024 : Int32) ≤ nI i from nI_ge (b := 1024) (show i < 1024 by omega) (by decide))) (fun c_21 => ?_)
    refine lv_aload_n hx hb dX3_clear_24 rfl (lv_at hl 0 rfl) ?_
    refine va_get (D := D) (ci := 2) (v := .ref (am 5)) (C := RX3) (T := TX3) (N := 19) hx hb hts hinM hown hK T.1 0 rfl rfl 7 (by decide) (hts _ (List.mem_cons_of_mem _ k3_f25)) (fun _ h9 => h9) rfl dX3_clear_25 ?_
    refine lv_iload_n hx hb dX3_clear_28 rfl (lv_at hl 1 rfl) ?_
    refine lv_iconst (v := 0) hx hb dX3_clear_29 (by decide) ?_
    have h_30 : vp_in (nI i) 1024 := vp_in_nI (show i < 1024 by omega) (by decide)
    refine va_zast (x := 0) hx hb hK T.1 T.2.1 T.2.2 6 6 rfl rfl h_30 dX3_clear_30 (fun H locs hP hD hS => ?_)
    rw [nI_clamp (show i < 2 ^ 31 by omega)] at hP hD
    have T := md_setB (i := i) (v := 0) ⟨hP, hD, hS⟩
    refine lv_iinc (v := nI (i + 1)) (lv' := [(1, .int (nI (i + 1))), (0, .ref o)]) hx hb dX3_clear_31 hl (k := 1) rfl (nI_1 i) (by decide) rfl (fun ls hl => ?_)
    refine lv_goto (tgt := 17) hx hb dX3_clear_34 (by decide) ?_
    rw [show sm_clear_loop G S n (k + 1) i B = sm_clear_loop G S n k (i + 1) (upd B i 0) from by rw [sm_clear_loop]]
    exact ih (i + 1) _ (by omega) _ _ _ T (lv_sub hl [1, 0] rfl)
/-- clear, its picture -/
def sm_clear (G : Nat → Int32) (S : Nat → Nat → Int32) (B : Nat → Int32) : (Nat → Int32) × (Nat → Nat → Int32) × (Nat → Int32) := sm_clear_loop (upd (upd (upd G 3 0) 0 0) 1 0) S 0 1024 0 B
set_option maxHeartbeats 4000000 in
set_option maxRecDepth 100000 in
theorem c_M_clear   : MV l D (t0 :: md_tys cm) yX3_clear wsX3_clear { frames := 1, cells := 0, slots := 0, locals := 21 } [.ref o] (md_W o am cm G S B) (md_W o am cm (sm_clear G S B).1 (sm_clear G S B).2.1 (sm_clear G S B).2.2) := by
  refine MV.start (cc := cX3_clear) (maxL := 2) (by decide) rfl (Nat.le_of_ble_eq_true rfl) (fun p e s m args below meth c A ls C T hl => ?_)
  have hx := C.1.1
  have hb := C.1.2.1
  have hml := C.1.2.2.1
  have hown : s.vm.findClass RX3 = some m.cls := C.1.2.2.2.1
  have hts := C.1.2.2.2.2
  have hK := C.2.2.2.1
  have hinM : ∀ w ∈ wsX30, w ∈ wsX3_clear := fun w h => List.mem_cons_of_mem _ (inX3 w h)
  have hl : lv_has ls 2 [(0, .ref o)] := hl
  refine lv_aload_n hx hb dX3_clear_0 rfl (lv_at hl 0 rfl) ?_
  refine lv_iconst (v := 0) hx hb dX3_clear_1 (by decide) ?_
  refine va_put (D := D) (ci := 2) (v := .int 0) (ty := .int) (C := RX3) (T := TX3) (N := 19) hx hb hts hinM tyX3 tyX3_ok nmX3 hown hK T.1 T.2.1 T.2.2 0 rfl rfl 0 (by decide) (hts _ (List.mem_cons_of_mem _ k3_f54)) (fun _ h9 => h9) rfl (by decide +kernel) rfl rfl (Nat.le_of_ble_eq_true rfl) dX3_clear_2 (fun H locs hP hD hS => ?_)
  have T := md_setG (k := 3) (v := 0) (kk := 0) rfl ⟨hP, hD, hS⟩
  refine lv_aload_n hx hb dX3_clear_5 rfl (lv_at hl 0 rfl) ?_
  refine lv_iconst (v := 0) hx hb dX3_clear_6 (by decide) ?_
  refine va_put (D := D) (ci := 2) (v := .int 0) (ty := .int) (C := RX3) (T := TX3) (N := 19) hx hb hts hinM tyX3 tyX3_ok nmX3 hown hK T.1 T.2.1 T.2.2 0 rfl rfl 1 (by decide) (hts _ (List.mem_cons_of_mem _ k3_f57)) (fun _ h9 => h9) rfl (by decide +kernel) rfl rfl (Nat.le_of_ble_eq_true rfl) dX3_clear_7 (fun H locs hP hD hS => ?_)
  have T := md_setG (k := 0) (v := 0) (kk := 1) rfl ⟨hP, hD, hS⟩
  refine lv_aload_n hx hb dX3_clear_10 rfl (lv_at hl 0 rfl) ?_
  refine lv_iconst (v := 0) hx hb dX3_clear_11 (by decide) ?_
  refine va_put (D := D) (ci := 2) (v := .int 0) (ty := .int) (C := RX3) (T := TX3) (N := 19) hx hb hts hinM tyX3 tyX3_ok nmX3 hown hK T.1 T.2.1 T.2.2 0 rfl rfl 8 (by decide) (hts _ (List.mem_cons_of_mem _ k3_f67)) (fun _ h9 => h9) rfl (by decide +kernel) rfl rfl (Nat.le_of_ble_eq_true rfl) dX3_clear_12 (fun H locs hP hD hS => ?_)
  have T := md_setG (k := 1) (v := 0) (kk := 8) rfl ⟨hP, hD, hS⟩
  refine lv_iconst (v := 0) hx hb dX3_clear_15 (by decide) ?_
  refine lv_istore_n (lv' := [(1, .int 0), (0, .ref o)]) hx hb dX3_clear_16 rfl hl (by decide) rfl (fun ls hl => ?_)
  rw [show sm_clear G S B = sm_clear_loop (upd (upd (upd G 3 0) 0 0) 1 0) S 0 1024 0 B from by rfl]
  exact lp_m_clear (hg_up (by decide) (hg_0 (G := upd G 3 0))) C 1024 0 _ (by omega) _ _ _ T (lv_sub hl [1, 0] rfl)
/-- sector, its picture -/
def sm_sector (G : Nat → Int32) (S : Nat → Nat → Int32) (n : Nat) (x1 : Int32) (x2 : Int32) (x3 : Int32) (x4 : Int32) (x5 : Int32) : Int32 × (Nat → Int32) × (Nat → Nat → Int32) := if x1 < (-1024) then ((-1), upd G 3 0, S) else (if 1024 < x2 then ((-1), upd G 3 0, S) else (if x2 ≤ x1 then ((-1), upd G 3 0, S) else (if x3 < 0 then ((-1), upd G 3 0, S) else (if 16 ≤ x3 then ((-1), upd G 3 0, S) else (if x4 < 0 then ((-1), upd G 3 0, S) else (if 4 ≤ x4 then ((-1), upd G 3 0, S) else (if x5 < 0 then ((-1), upd G 3 0, S) else (if 256 ≤ x5 then ((-1), upd G 3 0, S) else (if 32 ≤ ((upd G 3 0) 0) then ((-1), upd G 3 0, S) else ((((sm_reset (upd (upd G 3 0) 0 (((upd G 3 0) 0) + 1)) (up2 (up2 (up2 (up2 (up2 S (((upd G 3 0) 0).toNatClampNeg) 0 x1) (((upd G 3 0) 0).toNatClampNeg) 1 x2) (((upd G 3 0) 0).toNatClampNeg) 2 x3) (((upd G 3 0) 0).toNatClampNeg) 3 x4) (((upd G 3 0) 0).toNatClampNeg) 4 x5) (n + 1)).1) 0) - 1, (sm_reset (upd (upd G 3 0) 0 (((upd G 3 0) 0) + 1)) (up2 (up2 (up2 (up2 (up2 S (((upd G 3 0) 0).toNatClampNeg) 0 x1) (((upd G 3 0) 0).toNatClampNeg) 1 x2) (((upd G 3 0) 0).toNatClampNeg) 2 x3) (((upd G 3 0) 0).toNatClampNeg) 3 x4) (((upd G 3 0) 0).toNatClampNeg) 4 x5) (n + 1)).1, (sm_reset (upd (upd G 3 0) 0 (((upd G 3 0) 0) + 1)) (up2 (up2 (up2 (up2 (up2 S (((upd G 3 0) 0).toNatClampNeg) 0 x1) (((upd G 3 0) 0).toNatClampNeg) 1 x2) (((upd G 3 0) 0).toNatClampNeg) 2 x3) (((upd G 3 0) 0).toNatClampNeg) 3 x4) (((upd G 3 0) 0).toNatClampNeg) 4 x5) (n + 1)).2))))))))))
set_option maxHeartbeats 4000000 in
set_option maxRecDepth 100000 in
theorem c_M_sector {x1 : Int32} {x2 : Int32} {x3 : Int32} {x4 : Int32} {x5 : Int32} (hG : hg_n G n) : MI l D (t0 :: md_tys cm) yX3_sector wsX3_sector { frames := 1, cells := 0, slots := 0, locals := 21 } [.ref o, .int x1, .int x2, .int x3, .int x4, .int x5] (md_W o am cm G S B) ((sm_sector G S n x1 x2 x3 x4 x5).1) (md_W o am cm (sm_sector G S n x1 x2 x3 x4 x5).2.1 (sm_sector G S n x1 x2 x3 x4 x5).2.2 B) := by
  refine MI.start (cc := cX3_sector) (maxL := 7) (by decide) rfl (Nat.le_of_ble_eq_true rfl) (fun p e s m args below meth c A ls C T hl => ?_)
  have hx := C.1.1
  have hb := C.1.2.1
  have hml := C.1.2.2.1
  have hown : s.vm.findClass RX3 = some m.cls := C.1.2.2.2.1
  have hts := C.1.2.2.2.2
  have hK := C.2.2.2.1
  have hinM : ∀ w ∈ wsX30, w ∈ wsX3_sector := fun w h => List.mem_cons_of_mem _ (inX3 w h)
  have hn32 := hG.1
  have hl : lv_has ls 7 [(0, .ref o), (1, .int x1), (2, .int x2), (3, .int x3), (4, .int x4), (5, .int x5)] := hl
  refine lv_aload_n hx hb dX3_sector_0 rfl (lv_at hl 0 rfl) ?_
  refine lv_iconst (v := 0) hx hb dX3_sector_1 (by decide) ?_
  refine va_put (D := D) (ci := 2) (v := .int 0) (ty := .int) (C := RX3) (T := TX3) (N := 19) hx hb hts hinM tyX3 tyX3_ok nmX3 hown hK T.1 T.2.1 T.2.2 0 rfl rfl 0 (by decide) (hts _ (List.mem_cons_of_mem _ k3_f54)) (fun _ h9 => h9) rfl (by decide +kernel) rfl rfl (Nat.le_of_ble_eq_true rfl) dX3_sector_2 (fun H locs hP hD hS => ?_)
  have T := md_setG (k := 3) (v := 0) (kk := 0) rfl ⟨hP, hD, hS⟩
  refine lv_iload_n hx hb dX3_sector_5 rfl (lv_at hl 1 rfl) ?_
  refine lv_sipush (v := (-1024)) hx hb dX3_sector_6 (by decide) ?_
  refine lv_icmp_lt (tgt := 71) hx hb dX3_sector_9 (by decide) (fun c_9 => ?_) (fun c_9 => ?_)
  · skip
    refine lv_iconst (v := 0) hx hb dX3_sector_71 (by decide) ?_
    refine lv_istore (lv' := [(6, .int 0), (0, .ref o), (1, .int x1), (2, .int x2), (3, .int x3), (4, .int x4), (5, .int x5)]) hx hb dX3_sector_72 hl (by decide) rfl (fun ls hl => ?_)
    refine lv_iload hx hb dX3_sector_74 (lv_at hl 0 rfl) ?_
    refine lv_if_ne (tgt := 81) hx hb dX3_sector_76 (by decide) (fun c_76 => absurd c_76 (by decide)) (fun _ => ?_)
    refine lv_iconst (v := (-1)) hx hb dX3_sector_79 (by decide) ?_
    have e9 : sm_sector G S n x1 x2 x3 x4 x5 = ((-1), upd G 3 0, S) := by unfold sm_sector; simp only [if_pos c_9]
    exact hw_iret C T rfl (by rw [e9]) (by rw [e9]) dX3_sector_80
  · skip
    refine lv_iload_n hx hb dX3_sector_12 rfl (lv_at hl 2 rfl) ?_
    refine lv_sipush (v := 1024) hx hb dX3_sector_13 (by decide) ?_
    refine lv_icmp_gt (tgt := 71) hx hb dX3_sector_16 (by decide) (fun c_16 => ?_) (fun c_16 => ?_)
    · skip
      refine lv_iconst (v := 0) hx hb dX3_sector_71 (by decide) ?_
      refine lv_istore (lv' := [(6, .int 0), (0, .ref o), (1, .int x1), (2, .int x2), (3, .int x3), (4, .int x4), (5, .int x5)]) hx hb dX3_sector_72 hl (by decide) rfl (fun ls hl => ?_)
      refine lv_iload hx hb dX3_sector_74 (lv_at hl 0 rfl) ?_
      refine lv_if_ne (tgt := 81) hx hb dX3_sector_76 (by decide) (fun c_76 => absurd c_76 (by decide)) (fun _ => ?_)
      refine lv_iconst (v := (-1)) hx hb dX3_sector_79 (by decide) ?_
      have e9 : sm_sector G S n x1 x2 x3 x4 x5 = ((-1), upd G 3 0, S) := by unfold sm_sector; simp only [if_neg c_9, if_pos c_16]
      exact hw_iret C T rfl (by rw [e9]) (by rw [e9]) dX3_sector_80
    · skip
      refine lv_iload_n hx hb dX3_sector_19 rfl (lv_at hl 2 rfl) ?_
      refine lv_iload_n hx hb dX3_sector_20 rfl (lv_at hl 1 rfl) ?_
      refine lv_icmp_le (tgt := 71) hx hb dX3_sector_21 (by decide) (fun c_21 => ?_) (fun c_21 => ?_)
      · skip
        refine lv_iconst (v := 0) hx hb dX3_sector_71 (by decide) ?_
        refine lv_istore (lv' := [(6, .int 0), (0, .ref o), (1, .int x1), (2, .int x2), (3, .int x3), (4, .int x4), (5, .int x5)]) hx hb dX3_sector_72 hl (by decide) rfl (fun ls hl => ?_)
        refine lv_iload hx hb dX3_sector_74 (lv_at hl 0 rfl) ?_
        refine lv_if_ne (tgt := 81) hx hb dX3_sector_76 (by decide) (fun c_76 => absurd c_76 (by decide)) (fun _ => ?_)
        refine lv_iconst (v := (-1)) hx hb dX3_sector_79 (by decide) ?_
        have e9 : sm_sector G S n x1 x2 x3 x4 x5 = ((-1), upd G 3 0, S) := by unfold sm_sector; simp only [if_neg c_9, if_neg c_16, if_pos c_21]
        exact hw_iret C T rfl (by rw [e9]) (by rw [e9]) dX3_sector_80
      · skip
        refine lv_iload_n hx hb dX3_sector_24 rfl (lv_at hl 3 rfl) ?_
        refine lv_if_lt (tgt := 71) hx hb dX3_sector_25 (by decide) (fun c_25 => ?_) (fun c_25 => ?_)
        · skip
          refine lv_iconst (v := 0) hx hb dX3_sector_71 (by decide) ?_
          refine lv_istore (lv' := [(6, .int 0), (0, .ref o), (1, .int x1), (2, .int x2), (3, .int x3), (4, .int x4), (5, .int x5)]) hx hb dX3_sector_72 hl (by decide) rfl (fun ls hl => ?_)
          refine lv_iload hx hb dX3_sector_74 (lv_at hl 0 rfl) ?_
          refine lv_if_ne (tgt := 81) hx hb dX3_sector_76 (by decide) (fun c_76 => absurd c_76 (by decide)) (fun _ => ?_)
          refine lv_iconst (v := (-1)) hx hb dX3_sector_79 (by decide) ?_
          have e9 : sm_sector G S n x1 x2 x3 x4 x5 = ((-1), upd G 3 0, S) := by unfold sm_sector; simp only [if_neg c_9, if_neg c_16, if_neg c_21, if_pos c_25]
          exact hw_iret C T rfl (by rw [e9]) (by rw [e9]) dX3_sector_80
        · skip
          refine lv_iload_n hx hb dX3_sector_28 rfl (lv_at hl 3 rfl) ?_
          refine lv_bipush (v := 16) hx hb dX3_sector_29 (by decide) ?_
          refine lv_icmp_ge (tgt := 71) hx hb dX3_sector_31 (by decide) (fun c_31 => ?_) (fun c_31 => ?_)
          · skip
            refine lv_iconst (v := 0) hx hb dX3_sector_71 (by decide) ?_
            refine lv_istore (lv' := [(6, .int 0), (0, .ref o), (1, .int x1), (2, .int x2), (3, .int x3), (4, .int x4), (5, .int x5)]) hx hb dX3_sector_72 hl (by decide) rfl (fun ls hl => ?_)
            refine lv_iload hx hb dX3_sector_74 (lv_at hl 0 rfl) ?_
            refine lv_if_ne (tgt := 81) hx hb dX3_sector_76 (by decide) (fun c_76 => absurd c_76 (by decide)) (fun _ => ?_)
            refine lv_iconst (v := (-1)) hx hb dX3_sector_79 (by decide) ?_
            have e9 : sm_sector G S n x1 x2 x3 x4 x5 = ((-1), upd G 3 0, S) := by unfold sm_sector; simp only [if_neg c_9, if_neg c_16, if_neg c_21, if_neg c_25, if_pos c_31]
            exact hw_iret C T rfl (by rw [e9]) (by rw [e9]) dX3_sector_80
          · skip
            refine lv_iload hx hb dX3_sector_34 (lv_at hl 4 rfl) ?_
            refine lv_if_lt (tgt := 71) hx hb dX3_sector_36 (by decide) (fun c_36 => ?_) (fun c_36 => ?_)
            · skip
              refine lv_iconst (v := 0) hx hb dX3_sector_71 (by decide) ?_
              refine lv_istore (lv' := [(6, .int 0), (0, .ref o), (1, .int x1), (2, .int x2), (3, .int x3), (4, .int x4), (5, .int x5)]) hx hb dX3_sector_72 hl (by decide) rfl (fun ls hl => ?_)
              refine lv_iload hx hb dX3_sector_74 (lv_at hl 0 rfl) ?_
              refine lv_if_ne (tgt := 81) hx hb dX3_sector_76 (by decide) (fun c_76 => absurd c_76 (by decide)) (fun _ => ?_)
              refine lv_iconst (v := (-1)) hx hb dX3_sector_79 (by decide) ?_
              have e9 : sm_sector G S n x1 x2 x3 x4 x5 = ((-1), upd G 3 0, S) := by unfold sm_sector; simp only [if_neg c_9, if_neg c_16, if_neg c_21, if_neg c_25, if_neg c_31, if_pos c_36]
              exact hw_iret C T rfl (by rw [e9]) (by rw [e9]) dX3_sector_80
            · skip
              refine lv_iload hx hb dX3_sector_39 (lv_at hl 4 rfl) ?_
              refine lv_iconst (v := 4) hx hb dX3_sector_41 (by decide) ?_
              refine lv_icmp_ge (tgt := 71) hx hb dX3_sector_42 (by decide) (fun c_42 => ?_) (fun c_42 => ?_)
              · skip
                refine lv_iconst (v := 0) hx hb dX3_sector_71 (by decide) ?_
                refine lv_istore (lv' := [(6, .int 0), (0, .ref o), (1, .int x1), (2, .int x2), (3, .int x3), (4, .int x4), (5, .int x5)]) hx hb dX3_sector_72 hl (by decide) rfl (fun ls hl => ?_)
                refine lv_iload hx hb dX3_sector_74 (lv_at hl 0 rfl) ?_
                refine lv_if_ne (tgt := 81) hx hb dX3_sector_76 (by decide) (fun c_76 => absurd c_76 (by decide)) (fun _ => ?_)
                refine lv_iconst (v := (-1)) hx hb dX3_sector_79 (by decide) ?_
                have e9 : sm_sector G S n x1 x2 x3 x4 x5 = ((-1), upd G 3 0, S) := by unfold sm_sector; simp only [if_neg c_9, if_neg c_16, if_neg c_21, if_neg c_25, if_neg c_31, if_neg c_36, if_pos c_42]
                exact hw_iret C T rfl (by rw [e9]) (by rw [e9]) dX3_sector_80
              · skip
                refine lv_iload hx hb dX3_sector_45 (lv_at hl 5 rfl) ?_
                refine lv_if_lt (tgt := 71) hx hb dX3_sector_47 (by decide) (fun c_47 => ?_) (fun c_47 => ?_)
                · skip
                  refine lv_iconst (v := 0) hx hb dX3_sector_71 (by decide) ?_
                  refine lv_istore (lv' := [(6, .int 0), (0, .ref o), (1, .int x1), (2, .int x2), (3, .int x3), (4, .int x4), (5, .int x5)]) hx hb dX3_sector_72 hl (by decide) rfl (fun ls hl => ?_)
                  refine lv_iload hx hb dX3_sector_74 (lv_at hl 0 rfl) ?_
                  refine lv_if_ne (tgt := 81) hx hb dX3_sector_76 (by decide) (fun c_76 => absurd c_76 (by decide)) (fun _ => ?_)
                  refine lv_iconst (v := (-1)) hx hb dX3_sector_79 (by decide) ?_
                  have e9 : sm_sector G S n x1 x2 x3 x4 x5 = ((-1), upd G 3 0, S) := by unfold sm_sector; simp only [if_neg c_9, if_neg c_16, if_neg c_21, if_neg c_25, if_neg c_31, if_neg c_36, if_neg c_42, if_pos c_47]
                  exact hw_iret C T rfl (by rw [e9]) (by rw [e9]) dX3_sector_80
                · skip
                  refine lv_iload hx hb dX3_sector_50 (lv_at hl 5 rfl) ?_
                  refine lv_sipush (v := 256) hx hb dX3_sector_52 (by decide) ?_
                  refine lv_icmp_ge (tgt := 71) hx hb dX3_sector_55 (by decide) (fun c_55 => ?_) (fun c_55 => ?_)
                  · skip
                    refine lv_iconst (v := 0) hx hb dX3_sector_71 (by decide) ?_
                    refine lv_istore (lv' := [(6, .int 0), (0, .ref o), (1, .int x1), (2, .int x2), (3, .int x3), (4, .int x4), (5, .int x5)]) hx hb dX3_sector_72 hl (by decide) rfl (fun ls hl => ?_)
                    refine lv_iload hx hb dX3_sector_74 (lv_at hl 0 rfl) ?_
                    refine lv_if_ne (tgt := 81) hx hb dX3_sector_76 (by decide) (fun c_76 => absurd c_76 (by decide)) (fun _ => ?_)
                    refine lv_iconst (v := (-1)) hx hb dX3_sector_79 (by decide) ?_
                    have e9 : sm_sector G S n x1 x2 x3 x4 x5 = ((-1), upd G 3 0, S) := by unfold sm_sector; simp only [if_neg c_9, if_neg c_16, if_neg c_21, if_neg c_25, if_neg c_31, if_neg c_36, if_neg c_42, if_neg c_47, if_pos c_55]
                    exact hw_iret C T rfl (by rw [e9]) (by rw [e9]) dX3_sector_80
                  · skip
                    refine lv_aload_n hx hb dX3_sector_58 rfl (lv_at hl 0 rfl) ?_
                    refine va_get (D := D) (ci := 2) (v := .int ((upd G 3 0) 0)) (C := RX3) (T := TX3) (N := 19) hx hb hts hinM hown hK T.1 0 rfl rfl 1 (by decide) (hts _ (List.mem_cons_of_mem _ k3_f57)) (fun _ h9 => h9) rfl dX3_sector_59 ?_
                    refine lv_bipush (v := 32) hx hb dX3_sector_62 (by decide) ?_
                    refine lv_icmp_ge (tgt := 71) hx hb dX3_sector_64 (by decide) (fun c_64 => ?_) (fun c_64 => ?_)
                    · skip
                      refine lv_iconst (v := 0) hx hb dX3_sector_71 (by decide) ?_
                      refine lv_istore (lv' := [(6, .int 0), (0, .ref o), (1, .int x1), (2, .int x2), (3, .int x3), (4, .int x4), (5, .int x5)]) hx hb dX3_sector_72 hl (by decide) rfl (fun ls hl => ?_)
                      refine lv_iload hx hb dX3_sector_74 (lv_at hl 0 rfl) ?_
                      refine lv_if_ne (tgt := 81) hx hb dX3_sector_76 (by decide) (fun c_76 => absurd c_76 (by decide)) (fun _ => ?_)
                      refine lv_iconst (v := (-1)) hx hb dX3_sector_79 (by decide) ?_
                      have e9 : sm_sector G S n x1 x2 x3 x4 x5 = ((-1), upd G 3 0, S) := by unfold sm_sector; simp only [if_neg c_9, if_neg c_16, if_neg c_21, if_neg c_25, if_neg c_31, if_neg c_36, if_neg c_42, if_neg c_47, if_neg c_55, if_pos c_64]
                      exact hw_iret C T rfl (by rw [e9]) (by rw [e9]) dX3_sector_80
                    · skip
                      refine lv_iconst (v := 1) hx hb dX3_sector_67 (by decide) ?_
                      refine lv_goto (tgt := 72) hx hb dX3_sector_68 (by decide) ?_
                      refine lv_istore (lv' := [(6, .int 1), (0, .ref o), (1, .int x1), (2, .int x2), (3, .int x3), (4, .int x4), (5, .int x5)]) hx hb dX3_sector_72 hl (by decide) rfl (fun ls hl => ?_)
                      refine lv_iload hx hb dX3_sector_74 (lv_at hl 0 rfl) ?_
                      refine lv_if_ne (tgt := 81) hx hb dX3_sector_76 (by decide) (fun _ => ?_) (fun c_76 => absurd c_76 (by decide))
                      refine lv_aload_n hx hb dX3_sector_81 rfl (lv_at hl 1 rfl) ?_
                      refine va_get (D := D) (ci := 2) (v := .ref (am 0)) (C := RX3) (T := TX3) (N := 19) hx hb hts hinM hown hK T.1 0 rfl rfl 2 (by decide) (hts _ (List.mem_cons_of_mem _ k3_f7)) (fun _ h9 => h9) rfl dX3_sector_82 ?_
                      refine lv_aload_n hx hb dX3_sector_85 rfl (lv_at hl 1 rfl) ?_
                      refine va_get (D := D) (ci := 2) (v := .int ((upd G 3 0) 0)) (C := RX3) (T := TX3) (N := 19) hx hb hts hinM hown hK T.1 0 rfl rfl 1 (by decide) (hts _ (List.mem_cons_of_mem _ k3_f57)) (fun _ h9 => h9) rfl dX3_sector_86 ?_
                      refine lv_iload_n hx hb dX3_sector_89 rfl (lv_at hl 2 rfl) ?_
                      have h_90 : vp_in ((upd G 3 0) 0) 32 := (sx_in0 (hg_up (by decide) hG) c_64)
                      refine va_iast (x := x1) hx hb hK T.1 T.2.1 T.2.2 1 1 rfl rfl h_90 dX3_sector_90 (fun H locs hP hD hS => ?_)
                      have T := md_set0 (i := ((upd G 3 0) 0).toNatClampNeg) (v := x1) ⟨hP, hD, hS⟩
                      refine lv_aload_n hx hb dX3_sector_91 rfl (lv_at hl 1 rfl) ?_
                      refine va_get (D := D) (ci := 2) (v := .ref (am 1)) (C := RX3) (T := TX3) (N := 19) hx hb hts hinM hown hK T.1 0 rfl rfl 3 (by decide) (hts _ (List.mem_cons_of_mem _ k3_f13)) (fun _ h9 => h9) rfl dX3_sector_92 ?_
                      refine lv_aload_n hx hb dX3_sector_95 rfl (lv_at hl 1 rfl) ?_
                      refine va_get (D := D) (ci := 2) (v := .int ((upd G 3 0) 0)) (C := RX3) (T := TX3) (N := 19) hx hb hts hinM hown hK T.1 0 rfl rfl 1 (by decide) (hts _ (List.mem_cons_of_mem _ k3_f57)) (fun _ h9 => h9) rfl dX3_sector_96 ?_
                      refine lv_iload_n hx hb dX3_sector_99 rfl (lv_at hl 3 rfl) ?_
                      have h_100 : vp_in ((upd G 3 0) 0) 32 := (sx_in0 (hg_up (by decide) hG) c_64)
                      refine va_iast (x := x2) hx hb hK T.1 T.2.1 T.2.2 2 2 rfl rfl h_100 dX3_sector_100 (fun H locs hP hD hS => ?_)
                      have T := md_set1 (i := ((upd G 3 0) 0).toNatClampNeg) (v := x2) ⟨hP, hD, hS⟩
                      refine lv_aload_n hx hb dX3_sector_101 rfl (lv_at hl 1 rfl) ?_
                      refine va_get (D := D) (ci := 2) (v := .ref (am 2)) (C := RX3) (T := TX3) (N := 19) hx hb hts hinM hown hK T.1 0 rfl rfl 4 (by decide) (hts _ (List.mem_cons_of_mem _ k3_f16)) (fun _ h9 => h9) rfl dX3_sector_102 ?_
                      refine lv_aload_n hx hb dX3_sector_105 rfl (lv_at hl 1 rfl) ?_
                      refine va_get (D := D) (ci := 2) (v := .int ((upd G 3 0) 0)) (C := RX3) (T := TX3) (N := 19) hx hb hts hinM hown hK T.1 0 rfl rfl 1 (by decide) (hts _ (List.mem_cons_of_mem _ k3_f57)) (fun _ h9 => h9) rfl dX3_sector_106 ?_
                      refine lv_iload_n hx hb dX3_sector_109 rfl (lv_at hl 4 rfl) ?_
                      have h_110 : vp_in ((upd G 3 0) 0) 32 := (sx_in0 (hg_up (by decide) hG) c_64)
                      refine va_iast (x := x3) hx hb hK T.1 T.2.1 T.2.2 3 3 rfl rfl h_110 dX3_sector_110 (fun H locs hP hD hS => ?_)
                      have T := md_set2 (i := ((upd G 3 0) 0).toNatClampNeg) (v := x3) ⟨hP, hD, hS⟩
                      refine lv_aload_n hx hb dX3_sector_111 rfl (lv_at hl 1 rfl) ?_
                      refine va_get (D := D) (ci := 2) (v := .ref (am 3)) (C := RX3) (T := TX3) (N := 19) hx hb hts hinM hown hK T.1 0 rfl rfl 5 (by decide) (hts _ (List.mem_cons_of_mem _ k3_f19)) (fun _ h9 => h9) rfl dX3_sector_112 ?_
                      refine lv_aload_n hx hb dX3_sector_115 rfl (lv_at hl 1 rfl) ?_
                      refine va_get (D := D) (ci := 2) (v := .int ((upd G 3 0) 0)) (C := RX3) (T := TX3) (N := 19) hx hb hts hinM hown hK T.1 0 rfl rfl 1 (by decide) (hts _ (List.mem_cons_of_mem _ k3_f57)) (fun _ h9 => h9) rfl dX3_sector_116 ?_
                      refine lv_iload hx hb dX3_sector_119 (lv_at hl 5 rfl) ?_
                      have h_121 : vp_in ((upd G 3 0) 0) 32 := (sx_in0 (hg_up (by decide) hG) c_64)
                      refine va_iast (x := x4) hx hb hK T.1 T.2.1 T.2.2 4 4 rfl rfl h_121 dX3_sector_121 (fun H locs hP hD hS => ?_)
                      have T := md_set3 (i := ((upd G 3 0) 0).toNatClampNeg) (v := x4) ⟨hP, hD, hS⟩
                      refine lv_aload_n hx hb dX3_sector_122 rfl (lv_at hl 1 rfl) ?_
                      refine va_get (D := D) (ci := 2) (v := .ref (am 4)) (C := RX3) (T := TX3) (N := 19) hx hb hts hinM hown hK T.1 0 rfl rfl 6 (by decide) (hts _ (List.mem_cons_of_mem _ k3_f22)) (fun _ h9 => h9) rfl dX3_sector_123 ?_
                      refine lv_aload_n hx hb dX3_sector_126 rfl (lv_at hl 1 rfl) ?_
                      refine va_get (D := D) (ci := 2) (v := .int ((upd G 3 0) 0)) (C := RX3) (T := TX3) (N := 19) hx hb hts hinM hown hK T.1 0 rfl rfl 1 (by decide) (hts _ (List.mem_cons_of_mem _ k3_f57)) (fun _ h9 => h9) rfl dX3_sector_127 ?_
                      refine lv_iload hx hb dX3_sector_130 (lv_at hl 6 rfl) ?_
                      have h_132 : vp_in ((upd G 3 0) 0) 32 := (sx_in0 (hg_up (by decide) hG) c_64)
                      refine va_iast (x := x5) hx hb hK T.1 T.2.1 T.2.2 5 5 rfl rfl h_132 dX3_sector_132 (fun H locs hP hD hS => ?_)
                      have T := md_set4 (i := ((upd G 3 0) 0).toNatClampNeg) (v := x5) ⟨hP, hD, hS⟩
                      refine lv_aload_n hx hb dX3_sector_133 rfl (lv_at hl 1 rfl) ?_
                      refine lv_dup hx hb dX3_sector_134 rfl ?_
                      refine va_get (D := D) (ci := 2) (v := .int ((upd G 3 0) 0)) (C := RX3) (T := TX3) (N := 19) hx hb hts hinM hown hK T.1 0 rfl rfl 1 (by decide) (hts _ (List.mem_cons_of_mem _ k3_f57)) (fun _ h9 => h9) rfl dX3_sector_135 ?_
                      refine lv_iconst (v := 1) hx hb dX3_sector_138 (by decide) ?_
                      refine lv_iadd hx hb dX3_sector_139 ?_
                      refine va_put (D := D) (ci := 2) (v := .int (((upd G 3 0) 0) + 1)) (ty := .int) (C := RX3) (T := TX3) (N := 19) hx hb hts hinM tyX3 tyX3_ok nmX3 hown hK T.1 T.2.1 T.2.2 0 rfl rfl 1 (by decide) (hts _ (List.mem_cons_of_mem _ k3_f57)) (fun _ h9 => h9) rfl (by decide +kernel) rfl rfl (Nat.le_of_ble_eq_true rfl) dX3_sector_140 (fun H locs hP hD hS => ?_)
                      have T := md_setG (k := 0) (v := ((upd G 3 0) 0) + 1) (kk := 1) rfl ⟨hP, hD, hS⟩
                      refine lv_aload_n hx hb dX3_sector_143 rfl (lv_at hl 1 rfl) ?_
                      refine hw_Vv (As := []) (rest := []) C T (c_M_reset (hg_1 (hg_up (by decide) hG) c_64)) (cwV 0 hts (x3_in k3_m60 k3_i_reset k3_s_reset k3_ini k3_c_reset) rfl rfl rfl (by decide +kernel) ⟨Nat.le_of_ble_eq_true rfl, Nat.le_of_ble_eq_true rfl⟩) md_isO md_ad rfl hl.1 rfl (Nat.le_of_ble_eq_true rfl) dX3_sector_144 ⟨Nat.zero_le _, Nat.zero_le _⟩ (fun H locs T => ?_)
                      refine lv_aload_n hx hb dX3_sector_147 rfl (lv_at hl 1 rfl) ?_
                      refine va_get (D := D) (ci := 2) (v := .int (((sm_reset (upd (upd G 3 0) 0 (((upd G 3 0) 0) + 1)) (up2 (up2 (up2 (up2 (up2 S (((upd G 3 0) 0).toNatClampNeg) 0 x1) (((upd G 3 0) 0).toNatClampNeg) 1 x2) (((upd G 3 0) 0).toNatClampNeg) 2 x3) (((upd G 3 0) 0).toNatClampNeg) 3 x4) (((upd G 3 0) 0).toNatClampNeg) 4 x5) (n + 1)).1) 0)) (C := RX3) (T := TX3) (N := 19) hx hb hts hinM hown hK T.1 0 rfl rfl 1 (by decide) (hts _ (List.mem_cons_of_mem _ k3_f57)) (fun _ h9 => h9) rfl dX3_sector_148 ?_
                      refine lv_iconst (v := 1) hx hb dX3_sector_151 (by decide) ?_
                      refine lv_isub hx hb dX3_sector_152 ?_
                      have e9 : sm_sector G S n x1 x2 x3 x4 x5 = ((((sm_reset (upd (upd G 3 0) 0 (((upd G 3 0) 0) + 1)) (up2 (up2 (up2 (up2 (up2 S (((upd G 3 0) 0).toNatClampNeg) 0 x1) (((upd G 3 0) 0).toNatClampNeg) 1 x2) (((upd G 3 0) 0).toNatClampNeg) 2 x3) (((upd G 3 0) 0).toNatClampNeg) 3 x4) (((upd G 3 0) 0).toNatClampNeg) 4 x5) (n + 1)).1) 0) - 1, (sm_reset (upd (upd G 3 0) 0 (((upd G 3 0) 0) + 1)) (up2 (up2 (up2 (up2 (up2 S (((upd G 3 0) 0).toNatClampNeg) 0 x1) (((upd G 3 0) 0).toNatClampNeg) 1 x2) (((upd G 3 0) 0).toNatClampNeg) 2 x3) (((upd G 3 0) 0).toNatClampNeg) 3 x4) (((upd G 3 0) 0).toNatClampNeg) 4 x5) (n + 1)).1, (sm_reset (upd (upd G 3 0) 0 (((upd G 3 0) 0) + 1)) (up2 (up2 (up2 (up2 (up2 S (((upd G 3 0) 0).toNatClampNeg) 0 x1) (((upd G 3 0) 0).toNatClampNeg) 1 x2) (((upd G 3 0) 0).toNatClampNeg) 2 x3) (((upd G 3 0) 0).toNatClampNeg) 3 x4) (((upd G 3 0) 0).toNatClampNeg) 4 x5) (n + 1)).2) := by unfold sm_sector; simp only [if_neg c_9, if_neg c_16, if_neg c_21, if_neg c_25, if_neg c_31, if_neg c_36, if_neg c_42, if_neg c_47, if_neg c_55, if_neg c_64]
                      exact hw_iret C T rfl (by rw [e9]) (by rw [e9]) dX3_sector_153
/-- join, its picture -/
def sm_join (G : Nat → Int32) (B : Nat → Int32) (x1 : Int32) (x2 : Int32) : Int32 × (Nat → Int32) × (Nat → Int32) := if (sm_isSector (upd G 3 0) x1) = 0 then (0, upd G 3 0, B) else (if (sm_isSector (upd G 3 0) x2) = 0 then (0, upd G 3 0, B) else (if x1 = x2 then (0, upd G 3 0, B) else (if (B (((32 * x1) + x2).toNatClampNeg)) = 0 then (1, upd (upd G 3 0) 1 (((upd G 3 0) 1) + 1), upd (upd B (((32 * x1) + x2).toNatClampNeg) 1) (((32 * x2) + x1).toNatClampNeg) 1) else (0, upd G 3 0, B))))
set_option maxHeartbeats 4000000 in
set_option maxRecDepth 100000 in
theorem c_M_join {x1 : Int32} {x2 : Int32} (hG : hg_n G n) : MI l D (t0 :: md_tys cm) yX3_join wsX3_join { frames := 1, cells := 0, slots := 0, locals := 21 } [.ref o, .int x1, .int x2] (md_W o am cm G S B) ((sm_join G B x1 x2).1) (md_W o am cm (sm_join G B x1 x2).2.1 S (sm_join G B x1 x2).2.2) := by
  refine MI.start (cc := cX3_join) (maxL := 3) (by decide) rfl (Nat.le_of_ble_eq_true rfl) (fun p e s m args below meth c A ls C T hl => ?_)
  have hx := C.1.1
  have hb := C.1.2.1
  have hml := C.1.2.2.1
  have hown : s.vm.findClass RX3 = some m.cls := C.1.2.2.2.1
  have hts := C.1.2.2.2.2
  have hK := C.2.2.2.1
  have hinM : ∀ w ∈ wsX30, w ∈ wsX3_join := fun w h => List.mem_cons_of_mem _ (inX3 w h)
  have hn32 := hG.1
  have hl : lv_has ls 3 [(0, .ref o), (1, .int x1), (2, .int x2)] := hl
  refine lv_aload_n hx hb dX3_join_0 rfl (lv_at hl 0 rfl) ?_
  refine lv_iconst (v := 0) hx hb dX3_join_1 (by decide) ?_
  refine va_put (D := D) (ci := 2) (v := .int 0) (ty := .int) (C := RX3) (T := TX3) (N := 19) hx hb hts hinM tyX3 tyX3_ok nmX3 hown hK T.1 T.2.1 T.2.2 0 rfl rfl 0 (by decide) (hts _ (List.mem_cons_of_mem _ k3_f54)) (fun _ h9 => h9) rfl (by decide +kernel) rfl rfl (Nat.le_of_ble_eq_true rfl) dX3_join_2 (fun H locs hP hD hS => ?_)
  have T := md_setG (k := 3) (v := 0) (kk := 0) rfl ⟨hP, hD, hS⟩
  refine lv_aload_n hx hb dX3_join_5 rfl (lv_at hl 0 rfl) ?_
  refine lv_iload_n hx hb dX3_join_6 rfl (lv_at hl 1 rfl) ?_
  refine hw_Vi (As := [.int x1]) (rest := []) C T (c_M_isSector) (cwV 1 hts (x3_in k3_m63 k3_i_isSector k3_s_isSector k3_ini k3_c_isSector) rfl rfl rfl (by decide +kernel) ⟨Nat.le_of_ble_eq_true rfl, Nat.le_of_ble_eq_true rfl⟩) md_isO md_ad rfl hl.1 rfl (Nat.le_of_ble_eq_true rfl) dX3_join_7 ⟨Nat.zero_le _, Nat.zero_le _⟩ (fun H locs T => ?_)
  refine lv_if_eq (tgt := 40) hx hb dX3_join_10 (by decide) (fun c_10 => ?_) (fun c_10 => ?_)
  · skip
    refine lv_iconst (v := 0) hx hb dX3_join_40 (by decide) ?_
    have e9 : sm_join G B x1 x2 = (0, upd G 3 0, B) := by unfold sm_join; simp only [if_pos c_10]
    exact hw_iret C T (by decide) (by rw [e9]) (by rw [e9]) dX3_join_41
  · skip
    refine lv_aload_n hx hb dX3_join_13 rfl (lv_at hl 0 rfl) ?_
    refine lv_iload_n hx hb dX3_join_14 rfl (lv_at hl 2 rfl) ?_
    refine hw_Vi (As := [.int x2]) (rest := []) C T (c_M_isSector) (cwV 1 hts (x3_in k3_m63 k3_i_isSector k3_s_isSector k3_ini k3_c_isSector) rfl rfl rfl (by decide +kernel) ⟨Nat.le_of_ble_eq_true rfl, Nat.le_of_ble_eq_true rfl⟩) md_isO md_ad rfl hl.1 rfl (Nat.le_of_ble_eq_true rfl) dX3_join_15 ⟨Nat.zero_le _, Nat.zero_le _⟩ (fun H locs T => ?_)
    refine lv_if_eq (tgt := 40) hx hb dX3_join_18 (by decide) (fun c_18 => ?_) (fun c_18 => ?_)
    · skip
      refine lv_iconst (v := 0) hx hb dX3_join_40 (by decide) ?_
      have e9 : sm_join G B x1 x2 = (0, upd G 3 0, B) := by unfold sm_join; simp only [if_neg c_10, if_pos c_18]
      exact hw_iret C T (by decide) (by rw [e9]) (by rw [e9]) dX3_join_41
    · skip
      refine lv_iload_n hx hb dX3_join_21 rfl (lv_at hl 1 rfl) ?_
      refine lv_iload_n hx hb dX3_join_22 rfl (lv_at hl 2 rfl) ?_
      refine lv_icmp_eq (tgt := 40) hx hb dX3_join_23 (by decide) (fun c_23 => ?_) (fun c_23 => ?_)
      · skip
        refine lv_iconst (v := 0) hx hb dX3_join_40 (by decide) ?_
        have e9 : sm_join G B x1 x2 = (0, upd G 3 0, B) := by unfold sm_join; simp only [if_neg c_10, if_neg c_18, if_pos c_23]
        exact hw_iret C T (by decide) (by rw [e9]) (by rw [e9]) dX3_join_41
      · skip
        refine lv_aload_n hx hb dX3_join_26 rfl (lv_at hl 0 rfl) ?_
        refine va_get (D := D) (ci := 2) (v := .ref (am 5)) (C := RX3) (T := TX3) (N := 19) hx hb hts hinM hown hK T.1 0 rfl rfl 7 (by decide) (hts _ (List.mem_cons_of_mem _ k3_f25)) (fun _ h9 => h9) rfl dX3_join_27 ?_
        refine lv_bipush (v := 32) hx hb dX3_join_30 (by decide) ?_
        refine lv_iload_n hx hb dX3_join_32 rfl (lv_at hl 1 rfl) ?_
        refine lv_imul hx hb dX3_join_33 ?_
        refine lv_iload_n hx hb dX3_join_34 rfl (lv_at hl 2 rfl) ?_
        refine lv_iadd hx hb dX3_join_35 ?_
        have h_36 : vp_in ((32 * x1) + x2) 1024 := (mb_in (mx_in (hg_up (by decide) hG) c_10) (mx_in (hg_up (by decide) hG) c_18))
        refine va_zald hx hb hK T.1 6 6 rfl rfl h_36 dX3_join_36 ?_
        refine W.eq (g2 := F0 m 37 ls [.int (B (((32 * x1) + x2).toNatClampNeg))]) rfl ?_
        refine lv_if_eq (tgt := 42) hx hb dX3_join_37 (by decide) (fun c_37 => ?_) (fun c_37 => ?_)
        · skip
          refine lv_aload_n hx hb dX3_join_42 rfl (lv_at hl 0 rfl) ?_
          refine va_get (D := D) (ci := 2) (v := .ref (am 5)) (C := RX3) (T := TX3) (N := 19) hx hb hts hinM hown hK T.1 0 rfl rfl 7 (by decide) (hts _ (List.mem_cons_of_mem _ k3_f25)) (fun _ h9 => h9) rfl dX3_join_43 ?_
          refine lv_bipush (v := 32) hx hb dX3_join_46 (by decide) ?_
          refine lv_iload_n hx hb dX3_join_48 rfl (lv_at hl 1 rfl) ?_
          refine lv_imul hx hb dX3_join_49 ?_
          refine lv_iload_n hx hb dX3_join_50 rfl (lv_at hl 2 rfl) ?_
          refine lv_iadd hx hb dX3_join_51 ?_
          refine lv_iconst (v := 1) hx hb dX3_join_52 (by decide) ?_
          have h_53 : vp_in ((32 * x1) + x2) 1024 := (mb_in (mx_in (hg_up (by decide) hG) c_10) (mx_in (hg_up (by decide) hG) c_18))
          refine va_zast (x := 1) hx hb hK T.1 T.2.1 T.2.2 6 6 rfl rfl h_53 dX3_join_53 (fun H locs hP hD hS => ?_)
          have T := md_setB (i := ((32 * x1) + x2).toNatClampNeg) (v := 1) ⟨hP, hD, hS⟩
          refine lv_aload_n hx hb dX3_join_54 rfl (lv_at hl 0 rfl) ?_
          refine va_get (D := D) (ci := 2) (v := .ref (am 5)) (C := RX3) (T := TX3) (N := 19) hx hb hts hinM hown hK T.1 0 rfl rfl 7 (by decide) (hts _ (List.mem_cons_of_mem _ k3_f25)) (fun _ h9 => h9) rfl dX3_join_55 ?_
          refine lv_bipush (v := 32) hx hb dX3_join_58 (by decide) ?_
          refine lv_iload_n hx hb dX3_join_60 rfl (lv_at hl 2 rfl) ?_
          refine lv_imul hx hb dX3_join_61 ?_
          refine lv_iload_n hx hb dX3_join_62 rfl (lv_at hl 1 rfl) ?_
          refine lv_iadd hx hb dX3_join_63 ?_
          refine lv_iconst (v := 1) hx hb dX3_join_64 (by decide) ?_
          have h_65 : vp_in ((32 * x2) + x1) 1024 := (mb_in (mx_in (hg_up (by decide) hG) c_18) (mx_in (hg_up (by decide) hG) c_10))
          refine va_zast (x := 1) hx hb hK T.1 T.2.1 T.2.2 6 6 rfl rfl h_65 dX3_join_65 (fun H locs hP hD hS => ?_)
          have T := md_setB (i := ((32 * x2) + x1).toNatClampNeg) (v := 1) ⟨hP, hD, hS⟩
          refine lv_aload_n hx hb dX3_join_66 rfl (lv_at hl 0 rfl) ?_
          refine lv_dup hx hb dX3_join_67 rfl ?_
          refine va_get (D := D) (ci := 2) (v := .int ((upd G 3 0) 1)) (C := RX3) (T := TX3) (N := 19) hx hb hts hinM hown hK T.1 0 rfl rfl 8 (by decide) (hts _ (List.mem_cons_of_mem _ k3_f67)) (fun _ h9 => h9) rfl dX3_join_68 ?_
          refine lv_iconst (v := 1) hx hb dX3_join_71 (by decide) ?_
          refine lv_iadd hx hb dX3_join_72 ?_
          refine va_put (D := D) (ci := 2) (v := .int (((upd G 3 0) 1) + 1)) (ty := .int) (C := RX3) (T := TX3) (N := 19) hx hb hts hinM tyX3 tyX3_ok nmX3 hown hK T.1 T.2.1 T.2.2 0 rfl rfl 8 (by decide) (hts _ (List.mem_cons_of_mem _ k3_f67)) (fun _ h9 => h9) rfl (by decide +kernel) rfl rfl (Nat.le_of_ble_eq_true rfl) dX3_join_73 (fun H locs hP hD hS => ?_)
          have T := md_setG (k := 1) (v := ((upd G 3 0) 1) + 1) (kk := 8) rfl ⟨hP, hD, hS⟩
          refine lv_iconst (v := 1) hx hb dX3_join_76 (by decide) ?_
          have e9 : sm_join G B x1 x2 = (1, upd (upd G 3 0) 1 (((upd G 3 0) 1) + 1), upd (upd B (((32 * x1) + x2).toNatClampNeg) 1) (((32 * x2) + x1).toNatClampNeg) 1) := by unfold sm_join; simp only [if_neg c_10, if_neg c_18, if_neg c_23, if_pos c_37]
          exact hw_iret C T (by decide) (by rw [e9]) (by rw [e9]) dX3_join_77
        · skip
          refine lv_iconst (v := 0) hx hb dX3_join_40 (by decide) ?_
          have e9 : sm_join G B x1 x2 = (0, upd G 3 0, B) := by unfold sm_join; simp only [if_neg c_10, if_neg c_18, if_neg c_23, if_neg c_37]
          exact hw_iret C T (by decide) (by rw [e9]) (by rw [e9]) dX3_join_41
end
