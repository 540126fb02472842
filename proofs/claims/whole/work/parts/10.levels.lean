section
variable {l : Launch} {D : va_G} {h a : Nat} {ad : Nat → Nat} {cA : ClassId} {tz : List (ClassId × FieldType)} {G : Nat → Int32} {S : Nat → Nat → Int32} {n : Nat}
/-- lowFloor: its loop, by what is left to do -/
def sp_lowFloor_loop (S : Nat → Nat → Int32) (j : Nat) : Nat → Nat → Int32 → Int32
  | 0, _, x => x
  | k + 1, i, x => if (sp_hasNeighbour S j (nI i)) = 0 then (sp_lowFloor_loop S j k (i + 1) x) else (sp_lowFloor_loop S j k (i + 1) (sp_min x (S i 6)))
set_option maxHeartbeats 4000000 in
set_option maxRecDepth 100000 in
theorem lp_lowFloor {p : Program} {e : Env} {s : State} {m : MethodId} {args : Array Value} {below : List Frame} {meth : Method} {c : Code} {A : Nat → Prop} {j : Nat} (hj : j < 32) (hG : hg_n G n) (C : hw_C p s m args meth c cX1_lowFloor (some .int) 4 wsX1_lowFloor yX1_lowFloor.cls D ((cA, .object RX0) :: tz) A) :
    ∀ (k i : Nat) (x : Int32), i + k = n → ∀ (ls : Array Slot) (H : Heap) (locs : List Loc), hw_T D A s.heap (hw_W h a ad cA G S) H locs → lv_has ls 4 [(0, .ref h), (1, .ref (ad j)), (2, .int x), (3, .int (nI i))] → W p l e { frames := 1, cells := 0, slots := 0, locals := 21 } s m args below meth c H locs 0 0 (MQ below (va_Qi (fun (r' : Int32) (_ : Unit) => r' = sp_lowFloor_loop S j k i x) (fun _ t => va_P D vwCl (hw_W h a ad cA G S) t.heap) A) args s 0 0 A) (F0 m 7 ls []) := by
  have hx := C.1.1
  have hb := C.1.2.1
  have hml := C.1.2.2.1
  have hown : s.vm.findClass RX1 = some m.cls := C.1.2.2.2.1
  have hts := C.1.2.2.2.2
  have hK := C.2.2.2.1
  have hN := C.2.2.2.2.1
  have hinH : ∀ w ∈ wsX10, w ∈ wsX1_lowFloor := by decide +kernel
  have hinS : ∀ w ∈ wsX00, w ∈ wsX1_lowFloor := by decide +kernel
  have hn32 := hG.1
  intro k
  induction k with
  | zero =>
    intro i x hik ls H locs T hl
    refine lv_iload_n hx hb dX1_lowFloor_7 rfl (lv_at hl 3 rfl) ?_
    refine lv_aload_n hx hb dX1_lowFloor_8 rfl (lv_at hl 0 rfl) ?_
    refine va_get (D := D) (ci := 1) (v := .int (G 0)) (C := RX1) (T := TX1) (N := 7) hx hb hts hinH hown hK T.1 0 rfl rfl 1 (by decide) (hts (.fieldLink RX1 20 "MoverHall" "sectorCount" "I") (by decide +kernel)) (fun _ h9 => h9) rfl dX1_lowFloor_9 ?_
    refine lv_icmp_ge (tgt := 43) hx hb dX1_lowFloor_12 (by decide) (fun c_12 => ?_) (fun c_12 => absurd (show G 0 ≤ nI i by rw [hG.2]; exact nI_le (show n ≤ i by omega) (by omega)) c_12)
    refine lv_iload_n hx hb dX1_lowFloor_43 rfl (lv_at hl 2 rfl) ?_
    have e9 : sp_lowFloor_loop S j 0 i x = x := by rw [sp_lowFloor_loop]
    exact hw_iret C T rfl e9.symm rfl dX1_lowFloor_44
  | succ k ih =>
    intro i x hik ls H locs T hl
    refine lv_iload_n hx hb dX1_lowFloor_7 rfl (lv_at hl 3 rfl) ?_
    refine lv_aload_n hx hb dX1_lowFloor_8 rfl (lv_at hl 0 rfl) ?_
    refine va_get (D := D) (ci := 1) (v := .int (G 0)) (C := RX1) (T := TX1) (N := 7) hx hb hts hinH hown hK T.1 0 rfl rfl 1 (by decide) (hts (.fieldLink RX1 20 "MoverHall" "sectorCount" "I") (by decide +kernel)) (fun _ h9 => h9) rfl dX1_lowFloor_9 ?_
    refine lv_icmp_ge (tgt := 43) hx hb dX1_lowFloor_12 (by decide) (fun c_12 => absurd c_12 (show ¬ G 0 ≤ nI i by rw [hG.2]; exact nI_ge (show i < n by omega) (by omega))) (fun c_12 => ?_)
    refine lv_aload_n hx hb dX1_lowFloor_15 rfl (lv_at hl 1 rfl) ?_
    refine lv_iload_n hx hb dX1_lowFloor_16 rfl (lv_at hl 3 rfl) ?_
    refine hw_Ni (As := [.int (nI i)]) (rest := []) C T (c_S_hasNeighbour hj) ⟨va_cnB 1 hts gX1_lowFloor_X0_hasNeighbour_n42 rfl rfl rfl (hN (.methodLinkNest RX1 42 yX0_hasNeighbour "MoverHall") (by decide +kernel)) (hts (.initialized RX0) (by decide +kernel)) (by decide +kernel) ⟨Nat.le_of_ble_eq_true rfl, Nat.le_of_ble_eq_true rfl⟩, hts (.instanceMethod yX0_hasNeighbour) (by decide +kernel), hts (.selects RX0 yX0_hasNeighbour yX0_hasNeighbour) (by decide +kernel)⟩ (hw_isS hj) hw_ad rfl hl.1 rfl (Nat.le_of_ble_eq_true rfl) dX1_lowFloor_17 ⟨Nat.zero_le _, Nat.zero_le _⟩ (fun H locs T => ?_)
    refine lv_if_eq (tgt := 37) hx hb dX1_lowFloor_20 (by decide) (fun c_20 => ?_) (fun c_20 => ?_)
    · skip
      refine lv_iinc (v := nI (i + 1)) (lv' := [(3, .int (nI (i + 1))), (0, .ref h), (1, .ref (ad j)), (2, .int x)]) hx hb dX1_lowFloor_37 hl (k := 3) rfl (nI_1 i) (by decide) rfl (fun ls hl => ?_)
      refine lv_goto (tgt := 7) hx hb dX1_lowFloor_40 (by decide) ?_
      rw [show sp_lowFloor_loop S j (k + 1) i x = sp_lowFloor_loop S j k (i + 1) x from by rw [sp_lowFloor_loop]; simp only [if_pos c_20]]
      exact ih (i + 1) _ (by omega) _ _ _ T (lv_sub hl [1, 2, 3, 0] rfl)
    · skip
      refine lv_iload_n hx hb dX1_lowFloor_23 rfl (lv_at hl 2 rfl) ?_
      refine lv_aload_n hx hb dX1_lowFloor_24 rfl (lv_at hl 0 rfl) ?_
      refine va_get (D := D) (ci := 1) (v := .ref a) (C := RX1) (T := TX1) (N := 7) hx hb hts hinH hown hK T.1 0 rfl rfl 0 (by decide) (hts (.fieldLink RX1 11 "MoverHall" "sectors" "[LMoverHall$Sector;") (by decide +kernel)) (fun _ h9 => h9) rfl dX1_lowFloor_25 ?_
      refine lv_iload_n hx hb dX1_lowFloor_28 rfl (lv_at hl 3 rfl) ?_
      have h_29 : vp_in (nI i) 32 := vp_in_nI (show i < 32 by omega) (by decide)
      refine va_aldq hx hb hK T.1 1 0 rfl rfl h_29 dX1_lowFloor_29 ?_
      refine W.eq (g2 := F0 m 30 ls [.ref (ad i), .int x]) (by rw [nI_clamp (show i < 2 ^ 31 by omega)] <;> rfl) ?_
      refine va_getN (D := D) (ci := 0) (v := .int (S i 6)) (C := RX0) (T := TX0) (N := 13) hx hb hts hinS hown hK T.1 (i + 2) (hw_at (show i < 32 by omega)) rfl 6 (by decide) (va_Nw.use rfl (hN (.fieldLinkNest RX1 90 "MoverHall$Sector" "floor" "I" "MoverHall") (by decide +kernel))) (fun _ h9 => h9) rfl dX1_lowFloor_30 ?_
      refine va_mmin hx hb (by rw [hml, hl.1]) hown (hts (.methodLink RX1 118 Lib.Math.min.name) (by decide +kernel)) (hts (.static Lib.Math.min.name) (by decide +kernel)) (hts (.initialized "java/lang/Math") (by decide +kernel)) (hts (.code Lib.Math.min.name Lib.Math.min.code 2 (some .int)) (by decide +kernel)) (Nat.le_of_ble_eq_true rfl) (Nat.le_of_ble_eq_true rfl) (Nat.zero_le _) (Nat.zero_le _) dX1_lowFloor_33 ?_
      refine W.eq (g2 := F0 m 36 ls [.int (sp_min x (S i 6))]) rfl ?_
      refine lv_istore_n (lv' := [(2, .int (sp_min x (S i 6))), (0, .ref h), (1, .ref (ad j)), (3, .int (nI i))]) hx hb dX1_lowFloor_36 rfl hl (by decide) rfl (fun ls hl => ?_)
      refine lv_iinc (v := nI (i + 1)) (lv' := [(3, .int (nI (i + 1))), (2, .int (sp_min x (S i 6))), (0, .ref h), (1, .ref (ad j))]) hx hb dX1_lowFloor_37 hl (k := 3) rfl (nI_1 i) (by decide) rfl (fun ls hl => ?_)
      refine lv_goto (tgt := 7) hx hb dX1_lowFloor_40 (by decide) ?_
      rw [show sp_lowFloor_loop S j (k + 1) i x = sp_lowFloor_loop S j k (i + 1) (sp_min x (S i 6)) from by rw [sp_lowFloor_loop]; simp only [if_neg c_20]]
      exact ih (i + 1) _ (by omega) _ _ _ T (lv_sub hl [2, 3, 1, 0] rfl)
/-- lowFloor, its picture -/
def sp_lowFloor (S : Nat → Nat → Int32) (n : Nat) (j : Nat) : Int32 := sp_lowFloor_loop S j n 0 (S j 6)
set_option maxHeartbeats 4000000 in
set_option maxRecDepth 100000 in
theorem c_H_lowFloor {j : Nat} (hj : j < 32) (hG : hg_n G n) : MI l D ((cA, .object RX0) :: tz) yX1_lowFloor wsX1_lowFloor { frames := 1, cells := 0, slots := 0, locals := 21 } [.ref h, .ref (ad j)] (hw_W h a ad cA G S) (sp_lowFloor S n j) (hw_W h a ad cA G S) := by
  refine MI.start (cc := cX1_lowFloor) (maxL := 4) (by decide) rfl (Nat.le_of_ble_eq_true rfl) (fun p e s m args below meth c A ls C T hl => ?_)
  have hx := C.1.1
  have hb := C.1.2.1
  have hml := C.1.2.2.1
  have hown : s.vm.findClass RX1 = some m.cls := C.1.2.2.2.1
  have hts := C.1.2.2.2.2
  have hK := C.2.2.2.1
  have hN := C.2.2.2.2.1
  have hinH : ∀ w ∈ wsX10, w ∈ wsX1_lowFloor := by decide +kernel
  have hinS : ∀ w ∈ wsX00, w ∈ wsX1_lowFloor := by decide +kernel
  have hn32 := hG.1
  have hl : lv_has ls 4 [(0, .ref h), (1, .ref (ad j))] := hl
  refine lv_aload_n hx hb dX1_lowFloor_0 rfl (lv_at hl 1 rfl) ?_
  refine va_getN (D := D) (ci := 0) (v := .int (S j 6)) (C := RX0) (T := TX0) (N := 13) hx hb hts hinS hown hK T.1 (j + 2) (hw_at hj) rfl 6 (by decide) (va_Nw.use rfl (hN (.fieldLinkNest RX1 90 "MoverHall$Sector" "floor" "I" "MoverHall") (by decide +kernel))) (fun _ h9 => h9) rfl dX1_lowFloor_1 ?_
  refine lv_istore_n (lv' := [(2, .int (S j 6)), (0, .ref h), (1, .ref (ad j))]) hx hb dX1_lowFloor_4 rfl hl (by decide) rfl (fun ls hl => ?_)
  refine lv_iconst (v := 0) hx hb dX1_lowFloor_5 (by decide) ?_
  refine lv_istore_n (lv' := [(3, .int 0), (2, .int (S j 6)), (0, .ref h), (1, .ref (ad j))]) hx hb dX1_lowFloor_6 rfl hl (by decide) rfl (fun ls hl => ?_)
  rw [show sp_lowFloor S n j = sp_lowFloor_loop S j n 0 (S j 6) from by rfl]
  exact lp_lowFloor hj hG C n 0 _ (by omega) _ _ _ T (lv_sub hl [2, 3, 1, 0] rfl)
/-- highFloor: its loop, by what is left to do -/
def sp_highFloor_loop (S : Nat → Nat → Int32) (j : Nat) : Nat → Nat → Int32 → Int32
  | 0, _, x => x
  | k + 1, i, x => if (sp_hasNeighbour S j (nI i)) = 0 then (sp_highFloor_loop S j k (i + 1) x) else (sp_highFloor_loop S j k (i + 1) (sp_max x (S i 6)))
set_option maxHeartbeats 4000000 in
set_option maxRecDepth 100000 in
theorem lp_highFloor {p : Program} {e : Env} {s : State} {m : MethodId} {args : Array Value} {below : List Frame} {meth : Method} {c : Code} {A : Nat → Prop} {j : Nat} (hj : j < 32) (hG : hg_n G n) (C : hw_C p s m args meth c cX1_highFloor (some .int) 4 wsX1_highFloor yX1_highFloor.cls D ((cA, .object RX0) :: tz) A) :
    ∀ (k i : Nat) (x : Int32), i + k = n → ∀ (ls : Array Slot) (H : Heap) (locs : List Loc), hw_T D A s.heap (hw_W h a ad cA G S) H locs → lv_has ls 4 [(0, .ref h), (1, .ref (ad j)), (2, .int x), (3, .int (nI i))] → W p l e { frames := 1, cells := 0, slots := 0, locals := 21 } s m args below meth c H locs 0 0 (MQ below (va_Qi (fun (r' : Int32) (_ : Unit) => r' = sp_highFloor_loop S j k i x) (fun _ t => va_P D vwCl (hw_W h a ad cA G S) t.heap) A) args s 0 0 A) (F0 m 7 ls []) := by
  have hx := C.1.1
  have hb := C.1.2.1
  have hml := C.1.2.2.1
  have hown : s.vm.findClass RX1 = some m.cls := C.1.2.2.2.1
  have hts := C.1.2.2.2.2
  have hK := C.2.2.2.1
  have hN := C.2.2.2.2.1
  have hinH : ∀ w ∈ wsX10, w ∈ wsX1_highFloor := by decide +kernel
  have hinS : ∀ w ∈ wsX00, w ∈ wsX1_highFloor := by decide +kernel
  have hn32 := hG.1
  intro k
  induction k with
  | zero =>
    intro i x hik ls H locs T hl
    refine lv_iload_n hx hb dX1_highFloor_7 rfl (lv_at hl 3 rfl) ?_
    refine lv_aload_n hx hb dX1_highFloor_8 rfl (lv_at hl 0 rfl) ?_
    refine va_get (D := D) (ci := 1) (v := .int (G 0)) (C := RX1) (T := TX1) (N := 7) hx hb hts hinH hown hK T.1 0 rfl rfl 1 (by decide) (hts (.fieldLink RX1 20 "MoverHall" "sectorCount" "I") (by decide +kernel)) (fun _ h9 => h9) rfl dX1_highFloor_9 ?_
    refine lv_icmp_ge (tgt := 43) hx hb dX1_highFloor_12 (by decide) (fun c_12 => ?_) (fun c_12 => absurd (show G 0 ≤ nI i by rw [hG.2]; exact nI_le (show n ≤ i by omega) (by omega)) c_12)
    refine lv_iload_n hx hb dX1_highFloor_43 rfl (lv_at hl 2 rfl) ?_
    have e9 : sp_highFloor_loop S j 0 i x = x := by rw [sp_highFloor_loop]
    exact hw_iret C T rfl e9.symm rfl dX1_highFloor_44
  | succ k ih =>
    intro i x hik ls H locs T hl
    refine lv_iload_n hx hb dX1_highFloor_7 rfl (lv_at hl 3 rfl) ?_
    refine lv_aload_n hx hb dX1_highFloor_8 rfl (lv_at hl 0 rfl) ?_
    refine va_get (D := D) (ci := 1) (v := .int (G 0)) (C := RX1) (T := TX1) (N := 7) hx hb hts hinH hown hK T.1 0 rfl rfl 1 (by decide) (hts (.fieldLink RX1 20 "MoverHall" "sectorCount" "I") (by decide +kernel)) (fun _ h9 => h9) rfl dX1_highFloor_9 ?_
    refine lv_icmp_ge (tgt := 43) hx hb dX1_highFloor_12 (by decide) (fun c_12 => absurd c_12 (show ¬ G 0 ≤ nI i by rw [hG.2]; exact nI_ge (show i < n by omega) (by omega))) (fun c_12 => ?_)
    refine lv_aload_n hx hb dX1_highFloor_15 rfl (lv_at hl 1 rfl) ?_
    refine lv_iload_n hx hb dX1_highFloor_16 rfl (lv_at hl 3 rfl) ?_
    refine hw_Ni (As := [.int (nI i)]) (rest := []) C T (c_S_hasNeighbour hj) ⟨va_cnB 1 hts gX1_highFloor_X0_hasNeighbour_n42 rfl rfl rfl (hN (.methodLinkNest RX1 42 yX0_hasNeighbour "MoverHall") (by decide +kernel)) (hts (.initialized RX0) (by decide +kernel)) (by decide +kernel) ⟨Nat.le_of_ble_eq_true rfl, Nat.le_of_ble_eq_true rfl⟩, hts (.instanceMethod yX0_hasNeighbour) (by decide +kernel), hts (.selects RX0 yX0_hasNeighbour yX0_hasNeighbour) (by decide +kernel)⟩ (hw_isS hj) hw_ad rfl hl.1 rfl (Nat.le_of_ble_eq_true rfl) dX1_highFloor_17 ⟨Nat.zero_le _, Nat.zero_le _⟩ (fun H locs T => ?_)
    refine lv_if_eq (tgt := 37) hx hb dX1_highFloor_20 (by decide) (fun c_20 => ?_) (fun c_20 => ?_)
    · skip
      refine lv_iinc (v := nI (i + 1)) (lv' := [(3, .int (nI (i + 1))), (0, .ref h), (1, .ref (ad j)), (2, .int x)]) hx hb dX1_highFloor_37 hl (k := 3) rfl (nI_1 i) (by decide) rfl (fun ls hl => ?_)
      refine lv_goto (tgt := 7) hx hb dX1_highFloor_40 (by decide) ?_
      rw [show sp_highFloor_loop S j (k + 1) i x = sp_highFloor_loop S j k (i + 1) x from by rw [sp_highFloor_loop]; simp only [if_pos c_20]]
      exact ih (i + 1) _ (by omega) _ _ _ T (lv_sub hl [1, 2, 3, 0] rfl)
    · skip
      refine lv_iload_n hx hb dX1_highFloor_23 rfl (lv_at hl 2 rfl) ?_
      refine lv_aload_n hx hb dX1_highFloor_24 rfl (lv_at hl 0 rfl) ?_
      refine va_get (D := D) (ci := 1) (v := .ref a) (C := RX1) (T := TX1) (N := 7) hx hb hts hinH hown hK T.1 0 rfl rfl 0 (by decide) (hts (.fieldLink RX1 11 "MoverHall" "sectors" "[LMoverHall$Sector;") (by decide +kernel)) (fun _ h9 => h9) rfl dX1_highFloor_25 ?_
      refine lv_iload_n hx hb dX1_highFloor_28 rfl (lv_at hl 3 rfl) ?_
      have h_29 : vp_in (nI i) 32 := vp_in_nI (show i < 32 by omega) (by decide)
      refine va_aldq hx hb hK T.1 1 0 rfl rfl h_29 dX1_highFloor_29 ?_
      refine W.eq (g2 := F0 m 30 ls [.ref (ad i), .int x]) (by rw [nI_clamp (show i < 2 ^ 31 by omega)] <;> rfl) ?_
      refine va_getN (D := D) (ci := 0) (v := .int (S i 6)) (C := RX0) (T := TX0) (N := 13) hx hb hts hinS hown hK T.1 (i + 2) (hw_at (show i < 32 by omega)) rfl 6 (by decide) (va_Nw.use rfl (hN (.fieldLinkNest RX1 90 "MoverHall$Sector" "floor" "I" "MoverHall") (by decide +kernel))) (fun _ h9 => h9) rfl dX1_highFloor_30 ?_
      refine va_mmax hx hb (by rw [hml, hl.1]) hown (hts (.methodLink RX1 124 Lib.Math.max.name) (by decide +kernel)) (hts (.static Lib.Math.max.name) (by decide +kernel)) (hts (.initialized "java/lang/Math") (by decide +kernel)) (hts (.code Lib.Math.max.name Lib.Math.max.code 2 (some .int)) (by decide +kernel)) (Nat.le_of_ble_eq_true rfl) (Nat.le_of_ble_eq_true rfl) (Nat.zero_le _) (Nat.zero_le _) dX1_highFloor_33 ?_
      refine W.eq (g2 := F0 m 36 ls [.int (sp_max x (S i 6))]) rfl ?_
      refine lv_istore_n (lv' := [(2, .int (sp_max x (S i 6))), (0, .ref h), (1, .ref (ad j)), (3, .int (nI i))]) hx hb dX1_highFloor_36 rfl hl (by decide) rfl (fun ls hl => ?_)
      refine lv_iinc (v := nI (i + 1)) (lv' := [(3, .int (nI (i + 1))), (2, .int (sp_max x (S i 6))), (0, .ref h), (1, .ref (ad j))]) hx hb dX1_highFloor_37 hl (k := 3) rfl (nI_1 i) (by decide) rfl (fun ls hl => ?_)
      refine lv_goto (tgt := 7) hx hb dX1_highFloor_40 (by decide) ?_
      rw [show sp_highFloor_loop S j (k + 1) i x = sp_highFloor_loop S j k (i + 1) (sp_max x (S i 6)) from by rw [sp_highFloor_loop]; simp only [if_neg c_20]]
      exact ih (i + 1) _ (by omega) _ _ _ T (lv_sub hl [2, 3, 1, 0] rfl)
/-- highFloor, its picture -/
def sp_highFloor (S : Nat → Nat → Int32) (n : Nat) (j : Nat) : Int32 := sp_highFloor_loop S j n 0 (S j 6)
set_option maxHeartbeats 4000000 in
set_option maxRecDepth 100000 in
theorem c_H_highFloor {j : Nat} (hj : j < 32) (hG : hg_n G n) : MI l D ((cA, .object RX0) :: tz) yX1_highFloor wsX1_highFloor { frames := 1, cells := 0, slots := 0, locals := 21 } [.ref h, .ref (ad j)] (hw_W h a ad cA G S) (sp_highFloor S n j) (hw_W h a ad cA G S) := by
  refine MI.start (cc := cX1_highFloor) (maxL := 4) (by decide) rfl (Nat.le_of_ble_eq_true rfl) (fun p e s m args below meth c A ls C T hl => ?_)
  have hx := C.1.1
  have hb := C.1.2.1
  have hml := C.1.2.2.1
  have hown : s.vm.findClass RX1 = some m.cls := C.1.2.2.2.1
  have hts := C.1.2.2.2.2
  have hK := C.2.2.2.1
  have hN := C.2.2.2.2.1
  have hinH : ∀ w ∈ wsX10, w ∈ wsX1_highFloor := by decide +kernel
  have hinS : ∀ w ∈ wsX00, w ∈ wsX1_highFloor := by decide +kernel
  have hn32 := hG.1
  have hl : lv_has ls 4 [(0, .ref h), (1, .ref (ad j))] := hl
  refine lv_aload_n hx hb dX1_highFloor_0 rfl (lv_at hl 1 rfl) ?_
  refine va_getN (D := D) (ci := 0) (v := .int (S j 6)) (C := RX0) (T := TX0) (N := 13) hx hb hts hinS hown hK T.1 (j + 2) (hw_at hj) rfl 6 (by decide) (va_Nw.use rfl (hN (.fieldLinkNest RX1 90 "MoverHall$Sector" "floor" "I" "MoverHall") (by decide +kernel))) (fun _ h9 => h9) rfl dX1_highFloor_1 ?_
  refine lv_istore_n (lv' := [(2, .int (S j 6)), (0, .ref h), (1, .ref (ad j))]) hx hb dX1_highFloor_4 rfl hl (by decide) rfl (fun ls hl => ?_)
  refine lv_iconst (v := 0) hx hb dX1_highFloor_5 (by decide) ?_
  refine lv_istore_n (lv' := [(3, .int 0), (2, .int (S j 6)), (0, .ref h), (1, .ref (ad j))]) hx hb dX1_highFloor_6 rfl hl (by decide) rfl (fun ls hl => ?_)
  rw [show sp_highFloor S n j = sp_highFloor_loop S j n 0 (S j 6) from by rfl]
  exact lp_highFloor hj hG C n 0 _ (by omega) _ _ _ T (lv_sub hl [2, 3, 1, 0] rfl)
/-- lowCeiling: its loop, by what is left to do -/
def sp_lowCeiling_loop (S : Nat → Nat → Int32) (j : Nat) : Nat → Nat → Int32 → Int32
  | 0, _, x => x
  | k + 1, i, x => if (sp_hasNeighbour S j (nI i)) = 0 then (sp_lowCeiling_loop S j k (i + 1) x) else (sp_lowCeiling_loop S j k (i + 1) (sp_min x (S i 7)))
set_option maxHeartbeats 4000000 in
set_option maxRecDepth 100000 in
theorem lp_lowCeiling {p : Program} {e : Env} {s : State} {m : MethodId} {args : Array Value} {below : List Frame} {meth : Method} {c : Code} {A : Nat → Prop} {j : Nat} (hj : j < 32) (hG : hg_n G n) (C : hw_C p s m args meth c cX1_lowCeiling (some .int) 4 wsX1_lowCeiling yX1_lowCeiling.cls D ((cA, .object RX0) :: tz) A) :
    ∀ (k i : Nat) (x : Int32), i + k = n → ∀ (ls : Array Slot) (H : Heap) (locs : List Loc), hw_T D A s.heap (hw_W h a ad cA G S) H locs → lv_has ls 4 [(0, .ref h), (1, .ref (ad j)), (2, .int x), (3, .int (nI i))] → W p l e { frames := 1, cells := 0, slots := 0, locals := 21 } s m args below meth c H locs 0 0 (MQ below (va_Qi (fun (r' : Int32) (_ : Unit) => r' = sp_lowCeiling_loop S j k i x) (fun _ t => va_P D vwCl (hw_W h a ad cA G S) t.heap) A) args s 0 0 A) (F0 m 18 ls []) := by
  have hx := C.1.1
  have hb := C.1.2.1
  have hml := C.1.2.2.1
  have hown : s.vm.findClass RX1 = some m.cls := C.1.2.2.2.1
  have hts := C.1.2.2.2.2
  have hK := C.2.2.2.1
  have hN := C.2.2.2.2.1
  have hinH : ∀ w ∈ wsX10, w ∈ wsX1_lowCeiling := by decide +kernel
  have hinS : ∀ w ∈ wsX00, w ∈ wsX1_lowCeiling := by decide +kernel
  have hn32 := hG.1
  intro k
  induction k with
  | zero =>
    intro i x hik ls H locs T hl
    refine lv_iload_n hx hb dX1_lowCeiling_18 rfl (lv_at hl 3 rfl) ?_
    refine lv_aload_n hx hb dX1_lowCeiling_19 rfl (lv_at hl 0 rfl) ?_
    refine va_get (D := D) (ci := 1) (v := .int (G 0)) (C := RX1) (T := TX1) (N := 7) hx hb hts hinH hown hK T.1 0 rfl rfl 1 (by decide) (hts (.fieldLink RX1 20 "MoverHall" "sectorCount" "I") (by decide +kernel)) (fun _ h9 => h9) rfl dX1_lowCeiling_20 ?_
    refine lv_icmp_ge (tgt := 54) hx hb dX1_lowCeiling_23 (by decide) (fun c_23 => ?_) (fun c_23 => absurd (show G 0 ≤ nI i by rw [hG.2]; exact nI_le (show n ≤ i by omega) (by omega)) c_23)
    refine lv_iload_n hx hb dX1_lowCeiling_54 rfl (lv_at hl 2 rfl) ?_
    have e9 : sp_lowCeiling_loop S j 0 i x = x := by rw [sp_lowCeiling_loop]
    exact hw_iret C T rfl e9.symm rfl dX1_lowCeiling_55
  | succ k ih =>
    intro i x hik ls H locs T hl
    refine lv_iload_n hx hb dX1_lowCeiling_18 rfl (lv_at hl 3 rfl) ?_
    refine lv_aload_n hx hb dX1_lowCeiling_19 rfl (lv_at hl 0 rfl) ?_
    refine va_get (D := D) (ci := 1) (v := .int (G 0)) (C := RX1) (T := TX1) (N := 7) hx hb hts hinH hown hK T.1 0 rfl rfl 1 (by decide) (hts (.fieldLink RX1 20 "MoverHall" "sectorCount" "I") (by decide +kernel)) (fun _ h9 => h9) rfl dX1_lowCeiling_20 ?_
    refine lv_icmp_ge (tgt := 54) hx hb dX1_lowCeiling_23 (by decide) (fun c_23 => absurd c_23 (show ¬ G 0 ≤ nI i by rw [hG.2]; exact nI_ge (show i < n by omega) (by omega))) (fun c_23 => ?_)
    refine lv_aload_n hx hb dX1_lowCeiling_26 rfl (lv_at hl 1 rfl) ?_
    refine lv_iload_n hx hb dX1_lowCeiling_27 rfl (lv_at hl 3 rfl) ?_
    refine hw_Ni (As := [.int (nI i)]) (rest := []) C T (c_S_hasNeighbour hj) ⟨va_cnB 1 hts gX1_lowCeiling_X0_hasNeighbour_n42 rfl rfl rfl (hN (.methodLinkNest RX1 42 yX0_hasNeighbour "MoverHall") (by decide +kernel)) (hts (.initialized RX0) (by decide +kernel)) (by decide +kernel) ⟨Nat.le_of_ble_eq_true rfl, Nat.le_of_ble_eq_true rfl⟩, hts (.instanceMethod yX0_hasNeighbour) (by decide +kernel), hts (.selects RX0 yX0_hasNeighbour yX0_hasNeighbour) (by decide +kernel)⟩ (hw_isS hj) hw_ad rfl hl.1 rfl (Nat.le_of_ble_eq_true rfl) dX1_lowCeiling_28 ⟨Nat.zero_le _, Nat.zero_le _⟩ (fun H locs T => ?_)
    refine lv_if_eq (tgt := 48) hx hb dX1_lowCeiling_31 (by decide) (fun c_31 => ?_) (fun c_31 => ?_)
    · skip
      refine lv_iinc (v := nI (i + 1)) (lv' := [(3, .int (nI (i + 1))), (0, .ref h), (1, .ref (ad j)), (2, .int x)]) hx hb dX1_lowCeiling_48 hl (k := 3) rfl (nI_1 i) (by decide) rfl (fun ls hl => ?_)
      refine lv_goto (tgt := 18) hx hb dX1_lowCeiling_51 (by decide) ?_
      rw [show sp_lowCeiling_loop S j (k + 1) i x = sp_lowCeiling_loop S j k (i + 1) x from by rw [sp_lowCeiling_loop]; simp only [if_pos c_31]]
      exact ih (i + 1) _ (by omega) _ _ _ T (lv_sub hl [1, 2, 3, 0] rfl)
    · skip
      refine lv_iload_n hx hb dX1_lowCeiling_34 rfl (lv_at hl 2 rfl) ?_
      refine lv_aload_n hx hb dX1_lowCeiling_35 rfl (lv_at hl 0 rfl) ?_
      refine va_get (D := D) (ci := 1) (v := .ref a) (C := RX1) (T := TX1) (N := 7) hx hb hts hinH hown hK T.1 0 rfl rfl 0 (by decide) (hts (.fieldLink RX1 11 "MoverHall" "sectors" "[LMoverHall$Sector;") (by decide +kernel)) (fun _ h9 => h9) rfl dX1_lowCeiling_36 ?_
      refine lv_iload_n hx hb dX1_lowCeiling_39 rfl (lv_at hl 3 rfl) ?_
      have h_40 : vp_in (nI i) 32 := vp_in_nI (show i < 32 by omega) (by decide)
      refine va_aldq hx hb hK T.1 1 0 rfl rfl h_40 dX1_lowCeiling_40 ?_
      refine W.eq (g2 := F0 m 41 ls [.ref (ad i), .int x]) (by rw [nI_clamp (show i < 2 ^ 31 by omega)] <;> rfl) ?_
      refine va_getN (D := D) (ci := 0) (v := .int (S i 7)) (C := RX0) (T := TX0) (N := 13) hx hb hts hinS hown hK T.1 (i + 2) (hw_at (show i < 32 by omega)) rfl 7 (by decide) (va_Nw.use rfl (hN (.fieldLinkNest RX1 93 "MoverHall$Sector" "ceiling" "I" "MoverHall") (by decide +kernel))) (fun _ h9 => h9) rfl dX1_lowCeiling_41 ?_
      refine va_mmin hx hb (by rw [hml, hl.1]) hown (hts (.methodLink RX1 118 Lib.Math.min.name) (by decide +kernel)) (hts (.static Lib.Math.min.name) (by decide +kernel)) (hts (.initialized "java/lang/Math") (by decide +kernel)) (hts (.code Lib.Math.min.name Lib.Math.min.code 2 (some .int)) (by decide +kernel)) (Nat.le_of_ble_eq_true rfl) (Nat.le_of_ble_eq_true rfl) (Nat.zero_le _) (Nat.zero_le _) dX1_lowCeiling_44 ?_
      refine W.eq (g2 := F0 m 47 ls [.int (sp_min x (S i 7))]) rfl ?_
      refine lv_istore_n (lv' := [(2, .int (sp_min x (S i 7))), (0, .ref h), (1, .ref (ad j)), (3, .int (nI i))]) hx hb dX1_lowCeiling_47 rfl hl (by decide) rfl (fun ls hl => ?_)
      refine lv_iinc (v := nI (i + 1)) (lv' := [(3, .int (nI (i + 1))), (2, .int (sp_min x (S i 7))), (0, .ref h), (1, .ref (ad j))]) hx hb dX1_lowCeiling_48 hl (k := 3) rfl (nI_1 i) (by decide) rfl (fun ls hl => ?_)
      refine lv_goto (tgt := 18) hx hb dX1_lowCeiling_51 (by decide) ?_
      rw [show sp_lowCeiling_loop S j (k + 1) i x = sp_lowCeiling_loop S j k (i + 1) (sp_min x (S i 7)) from by rw [sp_lowCeiling_loop]; simp only [if_neg c_31]]
      exact ih (i + 1) _ (by omega) _ _ _ T (lv_sub hl [2, 3, 1, 0] rfl)
/-- lowCeiling, its picture -/
def sp_lowCeiling (S : Nat → Nat → Int32) (n : Nat) (j : Nat) : Int32 := if (sp_hasNeighbours S j) = 0 then (S j 7) else (sp_lowCeiling_loop S j n 0 1024)
set_option maxHeartbeats 4000000 in
set_option maxRecDepth 100000 in
theorem c_H_lowCeiling {j : Nat} (hj : j < 32) (hG : hg_n G n) : MI l D ((cA, .object RX0) :: tz) yX1_lowCeiling wsX1_lowCeiling { frames := 1, cells := 0, slots := 0, locals := 21 } [.ref h, .ref (ad j)] (hw_W h a ad cA G S) (sp_lowCeiling S n j) (hw_W h a ad cA G S) := by
  refine MI.start (cc := cX1_lowCeiling) (maxL := 4) (by decide) rfl (Nat.le_of_ble_eq_true rfl) (fun p e s m args below meth c A ls C T hl => ?_)
  have hx := C.1.1
  have hb := C.1.2.1
  have hml := C.1.2.2.1
  have hown : s.vm.findClass RX1 = some m.cls := C.1.2.2.2.1
  have hts := C.1.2.2.2.2
  have hK := C.2.2.2.1
  have hN := C.2.2.2.2.1
  have hinH : ∀ w ∈ wsX10, w ∈ wsX1_lowCeiling := by decide +kernel
  have hinS : ∀ w ∈ wsX00, w ∈ wsX1_lowCeiling := by decide +kernel
  have hn32 := hG.1
  have hl : lv_has ls 4 [(0, .ref h), (1, .ref (ad j))] := hl
  refine lv_aload_n hx hb dX1_lowCeiling_0 rfl (lv_at hl 1 rfl) ?_
  refine hw_Ni (As := []) (rest := []) C T (c_S_hasNeighbours hj) ⟨va_cnB 0 hts gX1_lowCeiling_X0_hasNeighbours_n127 rfl rfl rfl (hN (.methodLinkNest RX1 127 yX0_hasNeighbours "MoverHall") (by decide +kernel)) (hts (.initialized RX0) (by decide +kernel)) (by decide +kernel) ⟨Nat.le_of_ble_eq_true rfl, Nat.le_of_ble_eq_true rfl⟩, hts (.instanceMethod yX0_hasNeighbours) (by decide +kernel), hts (.selects RX0 yX0_hasNeighbours yX0_hasNeighbours) (by decide +kernel)⟩ (hw_isS hj) hw_ad rfl hl.1 rfl (Nat.le_of_ble_eq_true rfl) dX1_lowCeiling_1 ⟨Nat.zero_le _, Nat.zero_le _⟩ (fun H locs T => ?_)
  refine lv_if_ne (tgt := 12) hx hb dX1_lowCeiling_4 (by decide) (fun c_4 => ?_) (fun c_4 => ?_)
  · skip
    refine lv_sipush (v := 1024) hx hb dX1_lowCeiling_12 (by decide) ?_
    refine lv_istore_n (lv' := [(2, .int 1024), (0, .ref h), (1, .ref (ad j))]) hx hb dX1_lowCeiling_15 rfl hl (by decide) rfl (fun ls hl => ?_)
    refine lv_iconst (v := 0) hx hb dX1_lowCeiling_16 (by decide) ?_
    refine lv_istore_n (lv' := [(3, .int 0), (2, .int 1024), (0, .ref h), (1, .ref (ad j))]) hx hb dX1_lowCeiling_17 rfl hl (by decide) rfl (fun ls hl => ?_)
    rw [show sp_lowCeiling S n j = sp_lowCeiling_loop S j n 0 1024 from by unfold sp_lowCeiling; simp only [if_neg c_4]]
    exact lp_lowCeiling hj hG C n 0 _ (by omega) _ _ _ T (lv_sub hl [2, 3, 1, 0] rfl)
  · skip
    refine lv_aload_n hx hb dX1_lowCeiling_7 rfl (lv_at hl 1 rfl) ?_
    refine va_getN (D := D) (ci := 0) (v := .int (S j 7)) (C := RX0) (T := TX0) (N := 13) hx hb hts hinS hown hK T.1 (j + 2) (hw_at hj) rfl 7 (by decide) (va_Nw.use rfl (hN (.fieldLinkNest RX1 93 "MoverHall$Sector" "ceiling" "I" "MoverHall") (by decide +kernel))) (fun _ h9 => h9) rfl dX1_lowCeiling_8 ?_
    have e9 : sp_lowCeiling S n j = S j 7 := by unfold sp_lowCeiling; simp only [if_pos c_4]
    exact hw_iret C T rfl e9.symm rfl dX1_lowCeiling_11
/-- endOfWay, its picture -/
def sp_endOfWay (S : Nat → Nat → Int32) (n : Nat) (j : Nat) (x2 : Int32) : Int32 := if x2 = 0 then (sp_max ((sp_lowCeiling S n j) - 4) (S j 7)) else (if x2 = 1 then (sp_lowFloor S n j) else (sp_min (sp_highFloor S n j) (S j 7)))
set_option maxHeartbeats 4000000 in
set_option maxRecDepth 100000 in
theorem c_H_endOfWay {j : Nat} {x2 : Int32} (hj : j < 32) (hG : hg_n G n) : MI l D ((cA, .object RX0) :: tz) yX1_endOfWay wsX1_endOfWay { frames := 2, cells := 0, slots := 0, locals := 44 } [.ref h, .ref (ad j), .int x2] (hw_W h a ad cA G S) (sp_endOfWay S n j x2) (hw_W h a ad cA G S) := by
  refine MI.start (cc := cX1_endOfWay) (maxL := 3) (by decide) rfl (Nat.le_of_ble_eq_true rfl) (fun p e s m args below meth c A ls C T hl => ?_)
  have hx := C.1.1
  have hb := C.1.2.1
  have hml := C.1.2.2.1
  have hown : s.vm.findClass RX1 = some m.cls := C.1.2.2.2.1
  have hts := C.1.2.2.2.2
  have hK := C.2.2.2.1
  have hN := C.2.2.2.2.1
  have hinS : ∀ w ∈ wsX00, w ∈ wsX1_endOfWay := by decide +kernel
  have hn32 := hG.1
  have hl : lv_has ls 3 [(0, .ref h), (1, .ref (ad j)), (2, .int x2)] := hl
  refine lv_iload_n hx hb dX1_endOfWay_0 rfl (lv_at hl 2 rfl) ?_
  by_cases c_1_0 : x2 = 0
  · skip
    refine lv_lookup (off := 27) (tgt := 28) hx hb dX1_endOfWay_1 (by decide) (by rw [c_1_0]; decide +kernel) (by decide) ?_
    refine lv_aload_n hx hb dX1_endOfWay_28 rfl (lv_at hl 0 rfl) ?_
    refine lv_aload_n hx hb dX1_endOfWay_29 rfl (lv_at hl 1 rfl) ?_
    refine hw_Vi (As := [.ref (ad j)]) (rest := []) C T (c_H_lowCeiling hj hG) (cwV 1 hts gX1_endOfWay_X1_lowCeiling rfl rfl rfl (by decide +kernel) ⟨Nat.le_of_ble_eq_true rfl, Nat.le_of_ble_eq_true rfl⟩) hw_isH hw_ad rfl hl.1 rfl (Nat.le_of_ble_eq_true rfl) dX1_endOfWay_30 ⟨Nat.zero_le _, Nat.zero_le _⟩ (fun H locs T => ?_)
    refine lv_iconst (v := 4) hx hb dX1_endOfWay_33 (by decide) ?_
    refine lv_isub hx hb dX1_endOfWay_34 ?_
    refine lv_aload_n hx hb dX1_endOfWay_35 rfl (lv_at hl 1 rfl) ?_
    refine va_getN (D := D) (ci := 0) (v := .int (S j 7)) (C := RX0) (T := TX0) (N := 13) hx hb hts hinS hown hK T.1 (j + 2) (hw_at hj) rfl 7 (by decide) (va_Nw.use rfl (hN (.fieldLinkNest RX1 93 "MoverHall$Sector" "ceiling" "I" "MoverHall") (by decide +kernel))) (fun _ h9 => h9) rfl dX1_endOfWay_36 ?_
    refine va_mmax hx hb (by rw [hml, hl.1]) hown (hts (.methodLink RX1 124 Lib.Math.max.name) (by decide +kernel)) (hts (.static Lib.Math.max.name) (by decide +kernel)) (hts (.initialized "java/lang/Math") (by decide +kernel)) (hts (.code Lib.Math.max.name Lib.Math.max.code 2 (some .int)) (by decide +kernel)) (Nat.le_of_ble_eq_true rfl) (Nat.le_of_ble_eq_true rfl) (Nat.zero_le _) (Nat.zero_le _) dX1_endOfWay_39 ?_
    refine W.eq (g2 := F0 m 42 ls [.int (sp_max ((sp_lowCeiling S n j) - 4) (S j 7))]) rfl ?_
    have e9 : sp_endOfWay S n j x2 = sp_max ((sp_lowCeiling S n j) - 4) (S j 7) := by unfold sp_endOfWay; simp only [if_pos c_1_0]
    exact hw_iret C T rfl e9.symm rfl dX1_endOfWay_42
  · skip
    by_cases c_1_1 : x2 = 1
    · skip
      refine lv_lookup (off := 42) (tgt := 43) hx hb dX1_endOfWay_1 (by decide) (by rw [c_1_1]; decide +kernel) (by decide) ?_
      refine lv_aload_n hx hb dX1_endOfWay_43 rfl (lv_at hl 0 rfl) ?_
      refine lv_aload_n hx hb dX1_endOfWay_44 rfl (lv_at hl 1 rfl) ?_
      refine hw_Vi (As := [.ref (ad j)]) (rest := []) C T (c_H_lowFloor hj hG) (cwV 1 hts gX1_endOfWay_X1_lowFloor rfl rfl rfl (by decide +kernel) ⟨Nat.le_of_ble_eq_true rfl, Nat.le_of_ble_eq_true rfl⟩) hw_isH hw_ad rfl hl.1 rfl (Nat.le_of_ble_eq_true rfl) dX1_endOfWay_45 ⟨Nat.zero_le _, Nat.zero_le _⟩ (fun H locs T => ?_)
      have e9 : sp_endOfWay S n j x2 = sp_lowFloor S n j := by unfold sp_endOfWay; simp only [if_neg c_1_0, if_pos c_1_1]
      exact hw_iret C T rfl e9.symm rfl dX1_endOfWay_48
    · skip
      refine lv_lookup (off := 48) (tgt := 49) hx hb dX1_endOfWay_1 (by decide) (by show Op.lookupswitch.offset [(0, 27), (1, 42)] 48 _ = _; rw [lv_osw c_1_0 (by decide), lv_osw c_1_1 (by decide)]; rfl) (by decide) ?_
      refine lv_aload_n hx hb dX1_endOfWay_49 rfl (lv_at hl 0 rfl) ?_
      refine lv_aload_n hx hb dX1_endOfWay_50 rfl (lv_at hl 1 rfl) ?_
      refine hw_Vi (As := [.ref (ad j)]) (rest := []) C T (c_H_highFloor hj hG) (cwV 1 hts gX1_endOfWay_X1_highFloor rfl rfl rfl (by decide +kernel) ⟨Nat.le_of_ble_eq_true rfl, Nat.le_of_ble_eq_true rfl⟩) hw_isH hw_ad rfl hl.1 rfl (Nat.le_of_ble_eq_true rfl) dX1_endOfWay_51 ⟨Nat.zero_le _, Nat.zero_le _⟩ (fun H locs T => ?_)
      refine lv_aload_n hx hb dX1_endOfWay_54 rfl (lv_at hl 1 rfl) ?_
      refine va_getN (D := D) (ci := 0) (v := .int (S j 7)) (C := RX0) (T := TX0) (N := 13) hx hb hts hinS hown hK T.1 (j + 2) (hw_at hj) rfl 7 (by decide) (va_Nw.use rfl (hN (.fieldLinkNest RX1 93 "MoverHall$Sector" "ceiling" "I" "MoverHall") (by decide +kernel))) (fun _ h9 => h9) rfl dX1_endOfWay_55 ?_
      refine va_mmin hx hb (by rw [hml, hl.1]) hown (hts (.methodLink RX1 118 Lib.Math.min.name) (by decide +kernel)) (hts (.static Lib.Math.min.name) (by decide +kernel)) (hts (.initialized "java/lang/Math") (by decide +kernel)) (hts (.code Lib.Math.min.name Lib.Math.min.code 2 (some .int)) (by decide +kernel)) (Nat.le_of_ble_eq_true rfl) (Nat.le_of_ble_eq_true rfl) (Nat.zero_le _) (Nat.zero_le _) dX1_endOfWay_58 ?_
      refine W.eq (g2 := F0 m 61 ls [.int (sp_min (sp_highFloor S n j) (S j 7))]) rfl ?_
      have e9 : sp_endOfWay S n j x2 = sp_min (sp_highFloor S n j) (S j 7) := by unfold sp_endOfWay; simp only [if_neg c_1_0, if_neg c_1_1]
      exact hw_iret C T rfl e9.symm rfl dX1_endOfWay_61
end
