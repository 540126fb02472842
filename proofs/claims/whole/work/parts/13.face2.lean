section
variable {l : Launch} {D : va_G} {h a : Nat} {ad : Nat → Nat} {cA : ClassId} {tz : List (ClassId × FieldType)} {G : Nat → Int32} {S : Nat → Nat → Int32} {n : Nat}
/-- begin, its picture -/
def sp_begin (G : Nat → Int32) (S : Nat → Nat → Int32) (n : Nat) (x1 : Int32) (x2 : Int32) : Int32 × (Nat → Int32) × (Nat → Nat → Int32) := if (sp_isSector G x1) = 0 then (0, G, S) else (if (sp_isMover x2) = 0 then (0, G, S) else (if (S x1.toNatClampNeg 8) = (-1) then (1, (sp_start G S n x1.toNatClampNeg x2).1, (sp_start G S n x1.toNatClampNeg x2).2) else (if x2 = 0 then (if (S x1.toNatClampNeg 8) = 0 then (if (S x1.toNatClampNeg 9) = 1 then (0, G, S) else (1, G, sp_go S x1.toNatClampNeg 1)) else (0, G, S)) else (0, G, S))))
theorem sp_begin_0 {G : Nat → Int32} {S : Nat → Nat → Int32} {n : Nat} {x1 : Int32} {x2 : Int32} : (sp_begin G S n x1 x2).2.1 0 = G 0 := by
  unfold sp_begin
  repeat' split
  all_goals first | rfl | exact sp_start_0
theorem sp_begin_n {G : Nat → Int32} {S : Nat → Nat → Int32} {n : Nat} {x1 : Int32} {x2 : Int32} (h : hg_n G n) : hg_n (sp_begin G S n x1 x2).2.1 n := ⟨h.1, by rw [sp_begin_0]; exact h.2⟩
set_option maxHeartbeats 4000000 in
set_option maxRecDepth 100000 in
theorem c_H_begin {x1 : Int32} {x2 : Int32} (hG : hg_n G n) : MI l D ((cA, .object RX0) :: tz) yX1_begin wsX1_begin { frames := 4, cells := 0, slots := 0, locals := 88 } [.ref h, .int x1, .int x2] (hw_W h a ad cA G S) ((sp_begin G S n x1 x2).1) (hw_W h a ad cA (sp_begin G S n x1 x2).2.1 (sp_begin G S n x1 x2).2.2) := by
  refine MI.start (cc := cX1_begin) (maxL := 4) (by decide) rfl (Nat.le_of_ble_eq_true rfl) (fun p e s m args below meth c A ls C T hl => ?_)
  have hx := C.1.1
  have hb := C.1.2.1
  have hml := C.1.2.2.1
  have hown : s.vm.findClass RX1 = some m.cls := C.1.2.2.2.1
  have hts := C.1.2.2.2.2
  have hK := C.2.2.2.1
  have hN := C.2.2.2.2.1
  have hinH : ∀ w ∈ wsX10, w ∈ wsX1_begin := by decide +kernel
  have hinS : ∀ w ∈ wsX00, w ∈ wsX1_begin := by decide +kernel
  have hn32 := hG.1
  have hl : lv_has ls 4 [(0, .ref h), (1, .int x1), (2, .int x2)] := hl
  refine lv_aload_n hx hb dX1_begin_0 rfl (lv_at hl 0 rfl) ?_
  refine lv_iload_n hx hb dX1_begin_1 rfl (lv_at hl 1 rfl) ?_
  refine hw_Vi (As := [.int x1]) (rest := []) C T (c_H_isSector) (cwV 1 hts gX1_begin_X1_isSector rfl rfl rfl (by decide +kernel) ⟨Nat.le_of_ble_eq_true rfl, Nat.le_of_ble_eq_true rfl⟩) hw_isH hw_ad rfl hl.1 rfl (Nat.le_of_ble_eq_true rfl) dX1_begin_2 ⟨Nat.zero_le _, Nat.zero_le _⟩ (fun H locs T => ?_)
  refine lv_if_eq (tgt := 15) hx hb dX1_begin_5 (by decide) (fun c_5 => ?_) (fun c_5 => ?_)
  · skip
    refine lv_iconst (v := 0) hx hb dX1_begin_15 (by decide) ?_
    have e9 : sp_begin G S n x1 x2 = (0, G, S) := by unfold sp_begin; simp only [if_pos c_5]
    exact hw_iret C T (by decide) (by rw [e9]) (by rw [e9]) dX1_begin_16
  · skip
    refine lv_iload_n hx hb dX1_begin_8 rfl (lv_at hl 2 rfl) ?_
    refine hw_Si (As := [.int x2]) (rest := []) C T (c_H_isMover) (va_cwS 1 hts gX1_begin_X1_isMover rfl rfl rfl (by decide +kernel) ⟨Nat.le_of_ble_eq_true rfl, Nat.le_of_ble_eq_true rfl⟩) hw_ad rfl hl.1 rfl (Nat.le_of_ble_eq_true rfl) dX1_begin_9 ⟨Nat.zero_le _, Nat.zero_le _⟩ (fun H locs T => ?_)
    refine lv_if_ne (tgt := 17) hx hb dX1_begin_12 (by decide) (fun c_12 => ?_) (fun c_12 => ?_)
    · skip
      refine lv_aload_n hx hb dX1_begin_17 rfl (lv_at hl 0 rfl) ?_
      refine va_get (D := D) (ci := 1) (v := .ref a) (C := RX1) (T := TX1) (N := 7) hx hb hts hinH hown hK T.1 0 rfl rfl 0 (by decide) (hts (.fieldLink RX1 11 "MoverHall" "sectors" "[LMoverHall$Sector;") (by decide +kernel)) (fun _ h9 => h9) rfl dX1_begin_18 ?_
      refine lv_iload_n hx hb dX1_begin_21 rfl (lv_at hl 1 rfl) ?_
      have h_22 : vp_in x1 32 := (sx_in hG c_5)
      refine va_aldq hx hb hK T.1 1 0 rfl rfl h_22 dX1_begin_22 ?_
      refine W.eq (g2 := F0 m 23 ls [.ref (ad x1.toNatClampNeg)]) rfl ?_
      refine lv_astore_n (lv' := [(3, .ref (ad x1.toNatClampNeg)), (0, .ref h), (1, .int x1), (2, .int x2)]) hx hb dX1_begin_23 rfl hl (by decide) rfl (fun ls hl => ?_)
      refine lv_aload_n hx hb dX1_begin_24 rfl (lv_at hl 0 rfl) ?_
      refine va_getN (D := D) (ci := 0) (v := .int (S x1.toNatClampNeg 8)) (C := RX0) (T := TX0) (N := 13) hx hb hts hinS hown hK T.1 (x1.toNatClampNeg + 2) (hw_at (sx_lt h_22)) rfl 8 (by decide) (va_Nw.use rfl (hN (.fieldLinkNest RX1 67 "MoverHall$Sector" "mover" "I" "MoverHall") (by decide +kernel))) (fun _ h9 => h9) rfl dX1_begin_25 ?_
      refine lv_iconst (v := (-1)) hx hb dX1_begin_28 (by decide) ?_
      refine lv_icmp_ne (tgt := 40) hx hb dX1_begin_29 (by decide) (fun c_29 => ?_) (fun c_29 => ?_)
      · skip
        refine lv_iload_n hx hb dX1_begin_40 rfl (lv_at hl 3 rfl) ?_
        refine lv_if_ne (tgt := 66) hx hb dX1_begin_41 (by decide) (fun c_41 => ?_) (fun c_41 => ?_)
        · skip
          refine lv_iconst (v := 0) hx hb dX1_begin_66 (by decide) ?_
          have e9 : sp_begin G S n x1 x2 = (0, G, S) := by unfold sp_begin; simp only [if_neg c_5, if_neg c_12, if_neg c_29, if_neg c_41]
          exact hw_iret C T (by decide) (by rw [e9]) (by rw [e9]) dX1_begin_67
        · skip
          refine lv_aload_n hx hb dX1_begin_44 rfl (lv_at hl 0 rfl) ?_
          refine va_getN (D := D) (ci := 0) (v := .int (S x1.toNatClampNeg 8)) (C := RX0) (T := TX0) (N := 13) hx hb hts hinS hown hK T.1 (x1.toNatClampNeg + 2) (hw_at (sx_lt h_22)) rfl 8 (by decide) (va_Nw.use rfl (hN (.fieldLinkNest RX1 67 "MoverHall$Sector" "mover" "I" "MoverHall") (by decide +kernel))) (fun _ h9 => h9) rfl dX1_begin_45 ?_
          refine lv_if_ne (tgt := 66) hx hb dX1_begin_48 (by decide) (fun c_48 => ?_) (fun c_48 => ?_)
          · skip
            refine lv_iconst (v := 0) hx hb dX1_begin_66 (by decide) ?_
            have e9 : sp_begin G S n x1 x2 = (0, G, S) := by unfold sp_begin; simp only [if_neg c_5, if_neg c_12, if_neg c_29, if_pos c_41, if_neg c_48]
            exact hw_iret C T (by decide) (by rw [e9]) (by rw [e9]) dX1_begin_67
          · skip
            refine lv_aload_n hx hb dX1_begin_51 rfl (lv_at hl 0 rfl) ?_
            refine va_getN (D := D) (ci := 0) (v := .int (S x1.toNatClampNeg 9)) (C := RX0) (T := TX0) (N := 13) hx hb hts hinS hown hK T.1 (x1.toNatClampNeg + 2) (hw_at (sx_lt h_22)) rfl 9 (by decide) (va_Nw.use rfl (hN (.fieldLinkNest RX1 74 "MoverHall$Sector" "way" "I" "MoverHall") (by decide +kernel))) (fun _ h9 => h9) rfl dX1_begin_52 ?_
            refine lv_iconst (v := 1) hx hb dX1_begin_55 (by decide) ?_
            refine lv_icmp_eq (tgt := 66) hx hb dX1_begin_56 (by decide) (fun c_56 => ?_) (fun c_56 => ?_)
            · skip
              refine lv_iconst (v := 0) hx hb dX1_begin_66 (by decide) ?_
              have e9 : sp_begin G S n x1 x2 = (0, G, S) := by unfold sp_begin; simp only [if_neg c_5, if_neg c_12, if_neg c_29, if_pos c_41, if_pos c_48, if_pos c_56]
              exact hw_iret C T (by decide) (by rw [e9]) (by rw [e9]) dX1_begin_67
            · skip
              refine lv_aload_n hx hb dX1_begin_59 rfl (lv_at hl 0 rfl) ?_
              refine lv_iconst (v := 1) hx hb dX1_begin_60 (by decide) ?_
              refine hw_Nv (As := [.int 1]) (rest := []) C T (c_S_go (sx_lt h_22)) ⟨va_cnB 1 hts gX1_begin_X0_go_n77 rfl rfl rfl (hN (.methodLinkNest RX1 77 yX0_go "MoverHall") (by decide +kernel)) (hts (.initialized RX0) (by decide +kernel)) (by decide +kernel) ⟨Nat.le_of_ble_eq_true rfl, Nat.le_of_ble_eq_true rfl⟩, hts (.instanceMethod yX0_go) (by decide +kernel), hts (.selects RX0 yX0_go yX0_go) (by decide +kernel)⟩ (hw_isS (sx_lt h_22)) hw_ad rfl hl.1 rfl (Nat.le_of_ble_eq_true rfl) dX1_begin_61 ⟨Nat.zero_le _, Nat.zero_le _⟩ (fun H locs T => ?_)
              refine lv_iconst (v := 1) hx hb dX1_begin_64 (by decide) ?_
              have e9 : sp_begin G S n x1 x2 = (1, G, sp_go S x1.toNatClampNeg 1) := by unfold sp_begin; simp only [if_neg c_5, if_neg c_12, if_neg c_29, if_pos c_41, if_pos c_48, if_neg c_56]
              exact hw_iret C T (by decide) (by rw [e9]) (by rw [e9]) dX1_begin_65
      · skip
        refine lv_aload_n hx hb dX1_begin_32 rfl (lv_at hl 1 rfl) ?_
        refine lv_aload_n hx hb dX1_begin_33 rfl (lv_at hl 0 rfl) ?_
        refine lv_iload_n hx hb dX1_begin_34 rfl (lv_at hl 3 rfl) ?_
        refine hw_Vv (As := [.ref (ad x1.toNatClampNeg), .int x2]) (rest := []) C T (c_H_start (sx_lt h_22) hG) (cwV 2 hts gX1_begin_X1_start rfl rfl rfl (by decide +kernel) ⟨Nat.le_of_ble_eq_true rfl, Nat.le_of_ble_eq_true rfl⟩) hw_isH hw_ad rfl hl.1 rfl (Nat.le_of_ble_eq_true rfl) dX1_begin_35 ⟨Nat.zero_le _, Nat.zero_le _⟩ (fun H locs T => ?_)
        refine lv_iconst (v := 1) hx hb dX1_begin_38 (by decide) ?_
        have e9 : sp_begin G S n x1 x2 = (1, (sp_start G S n x1.toNatClampNeg x2).1, (sp_start G S n x1.toNatClampNeg x2).2) := by unfold sp_begin; simp only [if_neg c_5, if_neg c_12, if_pos c_29]
        exact hw_iret C T (by decide) (by rw [e9]) (by rw [e9]) dX1_begin_39
    · skip
      refine lv_iconst (v := 0) hx hb dX1_begin_15 (by decide) ?_
      have e9 : sp_begin G S n x1 x2 = (0, G, S) := by unfold sp_begin; simp only [if_neg c_5, if_pos c_12]
      exact hw_iret C T (by decide) (by rw [e9]) (by rw [e9]) dX1_begin_16
/-- tag: its loop, by what is left to do -/
def sp_tag_loop (n : Nat) (x1 : Int32) (x2 : Int32) : Nat → Nat → Int32 → (Nat → Int32) → (Nat → Nat → Int32) → Int32 × (Nat → Int32) × (Nat → Nat → Int32)
  | 0, _, x, G, S => (x, G, S)
  | k + 1, i, x, G, S => if (S i 4) = x1 then (if ((sp_begin G S n (nI i) x2).1) = 0 then (sp_tag_loop n x1 x2 k (i + 1) x ((sp_begin G S n (nI i) x2).2.1) ((sp_begin G S n (nI i) x2).2.2)) else (sp_tag_loop n x1 x2 k (i + 1) (x + 1) ((sp_begin G S n (nI i) x2).2.1) ((sp_begin G S n (nI i) x2).2.2))) else (sp_tag_loop n x1 x2 k (i + 1) x G S)
set_option maxHeartbeats 4000000 in
set_option maxRecDepth 100000 in
theorem lp_tag {p : Program} {e : Env} {s : State} {m : MethodId} {args : Array Value} {below : List Frame} {meth : Method} {c : Code} {A : Nat → Prop} {x1 : Int32} {x2 : Int32}  (C : hw_C p s m args meth c cX1_tag (some .int) 5 wsX1_tag yX1_tag.cls D ((cA, .object RX0) :: tz) A) :
    ∀ (k i : Nat) (x : Int32) (G : Nat → Int32) (S : Nat → Nat → Int32), i + k = n → hg_n G n → ∀ (ls : Array Slot) (H : Heap) (locs : List Loc), hw_T D A s.heap (hw_W h a ad cA G S) H locs → lv_has ls 5 [(0, .ref h), (1, .int x1), (2, .int x2), (3, .int x), (4, .int (nI i))] → W p l e { frames := 5, cells := 0, slots := 0, locals := 111 } s m args below meth c H locs 0 0 (MQ below (va_Qi (fun (r' : Int32) (_ : Unit) => r' = (sp_tag_loop n x1 x2 k i x G S).1) (fun _ t => va_P D vwCl (hw_W h a ad cA (sp_tag_loop n x1 x2 k i x G S).2.1 (sp_tag_loop n x1 x2 k i x G S).2.2) t.heap) A) args s 0 0 A) (F0 m 25 ls []) := by
  have hx := C.1.1
  have hb := C.1.2.1
  have hml := C.1.2.2.1
  have hown : s.vm.findClass RX1 = some m.cls := C.1.2.2.2.1
  have hts := C.1.2.2.2.2
  have hK := C.2.2.2.1
  have hN := C.2.2.2.2.1
  have hinH : ∀ w ∈ wsX10, w ∈ wsX1_tag := by decide +kernel
  have hinS : ∀ w ∈ wsX00, w ∈ wsX1_tag := by decide +kernel
  intro k
  induction k with
  | zero =>
    intro i x G S hik hG ls H locs T hl
    have hn32 := hG.1
    refine lv_iload hx hb dX1_tag_25 (lv_at hl 4 rfl) ?_
    refine lv_aload_n hx hb dX1_tag_27 rfl (lv_at hl 0 rfl) ?_
    refine va_get (D := D) (ci := 1) (v := .int (G 0)) (C := RX1) (T := TX1) (N := 7) hx hb hts hinH hown hK T.1 0 rfl rfl 1 (by decide) (hts (.fieldLink RX1 20 "MoverHall" "sectorCount" "I") (by decide +kernel)) (fun _ h9 => h9) rfl dX1_tag_28 ?_
    refine lv_icmp_ge (tgt := 67) hx hb dX1_tag_31 (by decide) (fun c_31 => ?_) (fun c_31 => absurd (show G 0 ≤ nI i by rw [hG.2]; exact nI_le (show n ≤ i by omega) (by omega)) c_31)
    refine lv_iload_n hx hb dX1_tag_67 rfl (lv_at hl 3 rfl) ?_
    have e9 : sp_tag_loop n x1 x2 0 i x G S = (x, G, S) := by rw [sp_tag_loop]
    exact hw_iret C T rfl (by rw [e9]) (by rw [e9]) dX1_tag_68
  | succ k ih =>
    intro i x G S hik hG ls H locs T hl
    have hn32 := hG.1
    refine lv_iload hx hb dX1_tag_25 (lv_at hl 4 rfl) ?_
    refine lv_aload_n hx hb dX1_tag_27 rfl (lv_at hl 0 rfl) ?_
    refine va_get (D := D) (ci := 1) (v := .int (G 0)) (C := RX1) (T := TX1) (N := 7) hx hb hts hinH hown hK T.1 0 rfl rfl 1 (by decide) (hts (.fieldLink RX1 20 "MoverHall" "sectorCount" "I") (by decide +kernel)) (fun _ h9 => h9) rfl dX1_tag_28 ?_
    refine lv_icmp_ge (tgt := 67) hx hb dX1_tag_31 (by decide) (fun c_31 => absurd c_31 (show ¬ G 0 ≤ nI i by rw [hG.2]; exact nI_ge (show i < n by omega) (by omega))) (fun c_31 => ?_)
    refine lv_aload_n hx hb dX1_tag_34 rfl (lv_at hl 0 rfl) ?_
    refine va_get (D := D) (ci := 1) (v := .ref a) (C := RX1) (T := TX1) (N := 7) hx hb hts hinH hown hK T.1 0 rfl rfl 0 (by decide) (hts (.fieldLink RX1 11 "MoverHall" "sectors" "[LMoverHall$Sector;") (by decide +kernel)) (fun _ h9 => h9) rfl dX1_tag_35 ?_
    refine lv_iload hx hb dX1_tag_38 (lv_at hl 4 rfl) ?_
    have h_40 : vp_in (nI i) 32 := vp_in_nI (show i < 32 by omega) (by decide)
    refine va_aldq hx hb hK T.1 1 0 rfl rfl h_40 dX1_tag_40 ?_
    refine W.eq (g2 := F0 m 41 ls [.ref (ad i)]) (by rw [nI_clamp (show i < 2 ^ 31 by omega)] <;> rfl) ?_
    refine va_getN (D := D) (ci := 0) (v := .int (S i 4)) (C := RX0) (T := TX0) (N := 13) hx hb hts hinS hown hK T.1 (i + 2) (hw_at (show i < 32 by omega)) rfl 4 (by decide) (va_Nw.use rfl (hN (.fieldLinkNest RX1 80 "MoverHall$Sector" "tag" "I" "MoverHall") (by decide +kernel))) (fun _ h9 => h9) rfl dX1_tag_41 ?_
    refine lv_iload_n hx hb dX1_tag_44 rfl (lv_at hl 1 rfl) ?_
    refine lv_icmp_ne (tgt := 61) hx hb dX1_tag_45 (by decide) (fun c_45 => ?_) (fun c_45 => ?_)
    · skip
      refine lv_iinc (v := nI (i + 1)) (lv' := [(4, .int (nI (i + 1))), (0, .ref h), (1, .int x1), (2, .int x2), (3, .int x)]) hx hb dX1_tag_61 hl (k := 4) rfl (nI_1 i) (by decide) rfl (fun ls hl => ?_)
      refine lv_goto (tgt := 25) hx hb dX1_tag_64 (by decide) ?_
      rw [show sp_tag_loop n x1 x2 (k + 1) i x G S = sp_tag_loop n x1 x2 k (i + 1) x G S from by rw [sp_tag_loop]; simp only [if_neg c_45]]
      exact ih (i + 1) _ _ _ (by omega) hG _ _ _ T (lv_sub hl [1, 2, 3, 4, 0] rfl)
    · skip
      refine lv_aload_n hx hb dX1_tag_48 rfl (lv_at hl 0 rfl) ?_
      refine lv_iload hx hb dX1_tag_49 (lv_at hl 4 rfl) ?_
      refine lv_iload_n hx hb dX1_tag_51 rfl (lv_at hl 2 rfl) ?_
      refine hw_Vi (As := [.int (nI i), .int x2]) (rest := []) C T (c_H_begin hG) (cwV 2 hts gX1_tag_X1_begin rfl rfl rfl (by decide +kernel) ⟨Nat.le_of_ble_eq_true rfl, Nat.le_of_ble_eq_true rfl⟩) hw_isH hw_ad rfl hl.1 rfl (Nat.le_of_ble_eq_true rfl) dX1_tag_52 ⟨Nat.zero_le _, Nat.zero_le _⟩ (fun H locs T => ?_)
      refine lv_if_eq (tgt := 61) hx hb dX1_tag_55 (by decide) (fun c_55 => ?_) (fun c_55 => ?_)
      · skip
        refine lv_iinc (v := nI (i + 1)) (lv' := [(4, .int (nI (i + 1))), (0, .ref h), (1, .int x1), (2, .int x2), (3, .int x)]) hx hb dX1_tag_61 hl (k := 4) rfl (nI_1 i) (by decide) rfl (fun ls hl => ?_)
        refine lv_goto (tgt := 25) hx hb dX1_tag_64 (by decide) ?_
        rw [show sp_tag_loop n x1 x2 (k + 1) i x G S = sp_tag_loop n x1 x2 k (i + 1) x ((sp_begin G S n (nI i) x2).2.1) ((sp_begin G S n (nI i) x2).2.2) from by rw [sp_tag_loop]; simp only [if_pos c_45, if_pos c_55]]
        exact ih (i + 1) _ _ _ (by omega) (sp_begin_n hG) _ _ _ T (lv_sub hl [1, 2, 3, 4, 0] rfl)
      · skip
        refine lv_iinc (v := x + 1) (lv' := [(3, .int (x + 1)), (0, .ref h), (1, .int x1), (2, .int x2), (4, .int (nI i))]) hx hb dX1_tag_58 hl (k := 3) rfl rfl (by decide) rfl (fun ls hl => ?_)
        refine lv_iinc (v := nI (i + 1)) (lv' := [(4, .int (nI (i + 1))), (3, .int (x + 1)), (0, .ref h), (1, .int x1), (2, .int x2)]) hx hb dX1_tag_61 hl (k := 4) rfl (nI_1 i) (by decide) rfl (fun ls hl => ?_)
        refine lv_goto (tgt := 25) hx hb dX1_tag_64 (by decide) ?_
        rw [show sp_tag_loop n x1 x2 (k + 1) i x G S = sp_tag_loop n x1 x2 k (i + 1) (x + 1) ((sp_begin G S n (nI i) x2).2.1) ((sp_begin G S n (nI i) x2).2.2) from by rw [sp_tag_loop]; simp only [if_pos c_45, if_neg c_55]]
        exact ih (i + 1) _ _ _ (by omega) (sp_begin_n hG) _ _ _ T (lv_sub hl [2, 3, 4, 1, 0] rfl)
/-- tag, its picture -/
def sp_tag (G : Nat → Int32) (S : Nat → Nat → Int32) (n : Nat) (x1 : Int32) (x2 : Int32) : Int32 × (Nat → Int32) × (Nat → Nat → Int32) := if (sp_isWithin x1 0 255) = 0 then ((-1), G, S) else (if (sp_isMover x2) = 0 then ((-1), G, S) else (sp_tag_loop n x1 x2 n 0 0 G S))
set_option maxHeartbeats 4000000 in
set_option maxRecDepth 100000 in
theorem c_H_tag {x1 : Int32} {x2 : Int32} (hG : hg_n G n) : MI l D ((cA, .object RX0) :: tz) yX1_tag wsX1_tag { frames := 5, cells := 0, slots := 0, locals := 111 } [.ref h, .int x1, .int x2] (hw_W h a ad cA G S) ((sp_tag G S n x1 x2).1) (hw_W h a ad cA (sp_tag G S n x1 x2).2.1 (sp_tag G S n x1 x2).2.2) := by
  refine MI.start (cc := cX1_tag) (maxL := 5) (by decide) rfl (Nat.le_of_ble_eq_true rfl) (fun p e s m args below meth c A ls C T hl => ?_)
  have hx := C.1.1
  have hb := C.1.2.1
  have hml := C.1.2.2.1
  have hown : s.vm.findClass RX1 = some m.cls := C.1.2.2.2.1
  have hts := C.1.2.2.2.2
  have hK := C.2.2.2.1
  have hN := C.2.2.2.2.1
  have hinH : ∀ w ∈ wsX10, w ∈ wsX1_tag := by decide +kernel
  have hinS : ∀ w ∈ wsX00, w ∈ wsX1_tag := by decide +kernel
  have hn32 := hG.1
  have hl : lv_has ls 5 [(0, .ref h), (1, .int x1), (2, .int x2)] := hl
  refine lv_iload_n hx hb dX1_tag_0 rfl (lv_at hl 1 rfl) ?_
  refine lv_iconst (v := 0) hx hb dX1_tag_1 (by decide) ?_
  refine lv_sipush (v := 255) hx hb dX1_tag_2 (by decide) ?_
  refine hw_Si (As := [.int x1, .int 0, .int 255]) (rest := []) C T (c_H_isWithin) (va_cwS 3 hts gX1_tag_X1_isWithin rfl rfl rfl (by decide +kernel) ⟨Nat.le_of_ble_eq_true rfl, Nat.le_of_ble_eq_true rfl⟩) hw_ad rfl hl.1 rfl (Nat.le_of_ble_eq_true rfl) dX1_tag_5 ⟨Nat.zero_le _, Nat.zero_le _⟩ (fun H locs T => ?_)
  refine lv_if_eq (tgt := 18) hx hb dX1_tag_8 (by decide) (fun c_8 => ?_) (fun c_8 => ?_)
  · skip
    refine lv_iconst (v := (-1)) hx hb dX1_tag_18 (by decide) ?_
    have e9 : sp_tag G S n x1 x2 = ((-1), G, S) := by unfold sp_tag; simp only [if_pos c_8]
    exact hw_iret C T rfl (by rw [e9]) (by rw [e9]) dX1_tag_19
  · skip
    refine lv_iload_n hx hb dX1_tag_11 rfl (lv_at hl 2 rfl) ?_
    refine hw_Si (As := [.int x2]) (rest := []) C T (c_H_isMover) (va_cwS 1 hts gX1_tag_X1_isMover rfl rfl rfl (by decide +kernel) ⟨Nat.le_of_ble_eq_true rfl, Nat.le_of_ble_eq_true rfl⟩) hw_ad rfl hl.1 rfl (Nat.le_of_ble_eq_true rfl) dX1_tag_12 ⟨Nat.zero_le _, Nat.zero_le _⟩ (fun H locs T => ?_)
    refine lv_if_ne (tgt := 20) hx hb dX1_tag_15 (by decide) (fun c_15 => ?_) (fun c_15 => ?_)
    · skip
      refine lv_iconst (v := 0) hx hb dX1_tag_20 (by decide) ?_
      refine lv_istore_n (lv' := [(3, .int 0), (0, .ref h), (1, .int x1), (2, .int x2)]) hx hb dX1_tag_21 rfl hl (by decide) rfl (fun ls hl => ?_)
      refine lv_iconst (v := 0) hx hb dX1_tag_22 (by decide) ?_
      refine lv_istore (lv' := [(4, .int 0), (3, .int 0), (0, .ref h), (1, .int x1), (2, .int x2)]) hx hb dX1_tag_23 hl (by decide) rfl (fun ls hl => ?_)
      rw [show sp_tag G S n x1 x2 = sp_tag_loop n x1 x2 n 0 0 G S from by unfold sp_tag; simp only [if_neg c_8, if_neg c_15]]
      exact lp_tag C n 0 _ _ _ (by omega) hG _ _ _ T (lv_sub hl [2, 3, 4, 1, 0] rfl)
    · skip
      refine lv_iconst (v := (-1)) hx hb dX1_tag_18 (by decide) ?_
      have e9 : sp_tag G S n x1 x2 = ((-1), G, S) := by unfold sp_tag; simp only [if_neg c_8, if_pos c_15]
      exact hw_iret C T rfl (by rw [e9]) (by rw [e9]) dX1_tag_19
/-- enter, its picture -/
def sp_enter (G : Nat → Int32) (S : Nat → Nat → Int32) (x1 : Int32) : Int32 × (Nat → Int32) × (Nat → Nat → Int32) := if x1 = (-1) then (1, upd G 5 x1, S) else (if (sp_isSector G x1) = 0 then (0, G, S) else (1, upd G 5 x1, S))
set_option maxHeartbeats 4000000 in
set_option maxRecDepth 100000 in
theorem c_H_enter {x1 : Int32}  : MI l D ((cA, .object RX0) :: tz) yX1_enter wsX1_enter { frames := 1, cells := 0, slots := 0, locals := 21 } [.ref h, .int x1] (hw_W h a ad cA G S) ((sp_enter G S x1).1) (hw_W h a ad cA (sp_enter G S x1).2.1 (sp_enter G S x1).2.2) := by
  refine MI.start (cc := cX1_enter) (maxL := 2) (by decide) rfl (Nat.le_of_ble_eq_true rfl) (fun p e s m args below meth c A ls C T hl => ?_)
  have hx := C.1.1
  have hb := C.1.2.1
  have hml := C.1.2.2.1
  have hown : s.vm.findClass RX1 = some m.cls := C.1.2.2.2.1
  have hts := C.1.2.2.2.2
  have hK := C.2.2.2.1
  have hinH : ∀ w ∈ wsX10, w ∈ wsX1_enter := by decide +kernel
  have hl : lv_has ls 2 [(0, .ref h), (1, .int x1)] := hl
  refine lv_iload_n hx hb dX1_enter_0 rfl (lv_at hl 1 rfl) ?_
  refine lv_iconst (v := (-1)) hx hb dX1_enter_1 (by decide) ?_
  refine lv_icmp_eq (tgt := 15) hx hb dX1_enter_2 (by decide) (fun c_2 => ?_) (fun c_2 => ?_)
  · skip
    refine lv_aload_n hx hb dX1_enter_15 rfl (lv_at hl 0 rfl) ?_
    refine lv_iload_n hx hb dX1_enter_16 rfl (lv_at hl 1 rfl) ?_
    refine va_put (D := D) (ci := 1) (v := .int x1) (ty := .int) (C := RX1) (T := TX1) (N := 7) hx hb hts hinH tyX1 tyX1_ok nmX1 hown hK T.1 T.2.1 T.2.2 0 rfl rfl 6 (by decide) (hts (.fieldLink RX1 16 "MoverHall" "guestSector" "I") (by decide +kernel)) (fun _ h9 => h9) rfl (by decide +kernel) rfl rfl (Nat.le_of_ble_eq_true rfl) dX1_enter_17 (fun H locs hP hD hS => ?_)
    have T := hw_setH (k := 5) (v := x1) rfl ⟨hP, hD, hS⟩
    refine lv_iconst (v := 1) hx hb dX1_enter_20 (by decide) ?_
    have e9 : sp_enter G S x1 = (1, upd G 5 x1, S) := by unfold sp_enter; simp only [if_pos c_2]
    exact hw_iret C T (by decide) (by rw [e9]) (by rw [e9]) dX1_enter_21
  · skip
    refine lv_aload_n hx hb dX1_enter_5 rfl (lv_at hl 0 rfl) ?_
    refine lv_iload_n hx hb dX1_enter_6 rfl (lv_at hl 1 rfl) ?_
    refine hw_Vi (As := [.int x1]) (rest := []) C T (c_H_isSector) (cwV 1 hts gX1_enter_X1_isSector rfl rfl rfl (by decide +kernel) ⟨Nat.le_of_ble_eq_true rfl, Nat.le_of_ble_eq_true rfl⟩) hw_isH hw_ad rfl hl.1 rfl (Nat.le_of_ble_eq_true rfl) dX1_enter_7 ⟨Nat.zero_le _, Nat.zero_le _⟩ (fun H locs T => ?_)
    refine lv_if_ne (tgt := 15) hx hb dX1_enter_10 (by decide) (fun c_10 => ?_) (fun c_10 => ?_)
    · skip
      refine lv_aload_n hx hb dX1_enter_15 rfl (lv_at hl 0 rfl) ?_
      refine lv_iload_n hx hb dX1_enter_16 rfl (lv_at hl 1 rfl) ?_
      refine va_put (D := D) (ci := 1) (v := .int x1) (ty := .int) (C := RX1) (T := TX1) (N := 7) hx hb hts hinH tyX1 tyX1_ok nmX1 hown hK T.1 T.2.1 T.2.2 0 rfl rfl 6 (by decide) (hts (.fieldLink RX1 16 "MoverHall" "guestSector" "I") (by decide +kernel)) (fun _ h9 => h9) rfl (by decide +kernel) rfl rfl (Nat.le_of_ble_eq_true rfl) dX1_enter_17 (fun H locs hP hD hS => ?_)
      have T := hw_setH (k := 5) (v := x1) rfl ⟨hP, hD, hS⟩
      refine lv_iconst (v := 1) hx hb dX1_enter_20 (by decide) ?_
      have e9 : sp_enter G S x1 = (1, upd G 5 x1, S) := by unfold sp_enter; simp only [if_neg c_2, if_neg c_10]
      exact hw_iret C T (by decide) (by rw [e9]) (by rw [e9]) dX1_enter_21
    · skip
      refine lv_iconst (v := 0) hx hb dX1_enter_13 (by decide) ?_
      have e9 : sp_enter G S x1 = (0, G, S) := by unfold sp_enter; simp only [if_neg c_2, if_pos c_10]
      exact hw_iret C T (by decide) (by rw [e9]) (by rw [e9]) dX1_enter_14
/-- ticks: its loop, by what is left to do -/
def sp_ticks_loop (n : Nat) : Nat → Nat → (Nat → Int32) → (Nat → Nat → Int32) → Int32 × (Nat → Int32) × (Nat → Nat → Int32)
  | 0, _, G, S => (G 2, G, S)
  | k + 1, i, G, S => sp_ticks_loop n k (i + 1) ((sp_passOneTick G S n).1) ((sp_passOneTick G S n).2)
set_option maxHeartbeats 4000000 in
set_option maxRecDepth 100000 in
theorem lp_ticks {p : Program} {e : Env} {s : State} {m : MethodId} {args : Array Value} {below : List Frame} {meth : Method} {c : Code} {A : Nat → Prop}   {N : Nat} (hN1 : N ≤ 1000) (C : hw_C p s m args meth c cX1_ticks (some .int) 3 wsX1_ticks yX1_ticks.cls D ((cA, .object RX0) :: tz) A) :
    ∀ (k i : Nat) (G : Nat → Int32) (S : Nat → Nat → Int32), i + k = N → hg_n G n → ∀ (ls : Array Slot) (H : Heap) (locs : List Loc), hw_T D A s.heap (hw_W h a ad cA G S) H locs → lv_has ls 3 [(0, .ref h), (1, .int (nI N)), (2, .int (nI i))] → W p l e { frames := 6, cells := 0, slots := 0, locals := 131 } s m args below meth c H locs 0 0 (MQ below (va_Qi (fun (r' : Int32) (_ : Unit) => r' = (sp_ticks_loop n k i G S).1) (fun _ t => va_P D vwCl (hw_W h a ad cA (sp_ticks_loop n k i G S).2.1 (sp_ticks_loop n k i G S).2.2) t.heap) A) args s 0 0 A) (F0 m 15 ls []) := by
  have hx := C.1.1
  have hb := C.1.2.1
  have hml := C.1.2.2.1
  have hown : s.vm.findClass RX1 = some m.cls := C.1.2.2.2.1
  have hts := C.1.2.2.2.2
  have hK := C.2.2.2.1
  have hinH : ∀ w ∈ wsX10, w ∈ wsX1_ticks := by decide +kernel
  intro k
  induction k with
  | zero =>
    intro i G S hik hG ls H locs T hl
    have hn32 := hG.1
    refine lv_iload_n hx hb dX1_ticks_15 rfl (lv_at hl 2 rfl) ?_
    refine lv_iload_n hx hb dX1_ticks_16 rfl (lv_at hl 1 rfl) ?_
    refine lv_icmp_ge (tgt := 30) hx hb dX1_ticks_17 (by decide) (fun c_17 => ?_) (fun c_17 => absurd (show nI N ≤ nI i from nI_le (show N ≤ i by omega) (by omega)) c_17)
    refine lv_aload_n hx hb dX1_ticks_30 rfl (lv_at hl 0 rfl) ?_
    refine va_get (D := D) (ci := 1) (v := .int (G 2)) (C := RX1) (T := TX1) (N := 7) hx hb hts hinH hown hK T.1 0 rfl rfl 3 (by decide) (hts (.fieldLink RX1 55 "MoverHall" "tickCount" "I") (by decide +kernel)) (fun _ h9 => h9) rfl dX1_ticks_31 ?_
    have e9 : sp_ticks_loop n 0 i G S = (G 2, G, S) := by rw [sp_ticks_loop]
    exact hw_iret C T rfl (by rw [e9]) (by rw [e9]) dX1_ticks_34
  | succ k ih =>
    intro i G S hik hG ls H locs T hl
    have hn32 := hG.1
    refine lv_iload_n hx hb dX1_ticks_15 rfl (lv_at hl 2 rfl) ?_
    refine lv_iload_n hx hb dX1_ticks_16 rfl (lv_at hl 1 rfl) ?_
    refine lv_icmp_ge (tgt := 30) hx hb dX1_ticks_17 (by decide) (fun c_17 => absurd c_17 (show ¬ nI N ≤ nI i from nI_ge (show i < N by omega) (by omega))) (fun c_17 => ?_)
    refine lv_aload_n hx hb dX1_ticks_20 rfl (lv_at hl 0 rfl) ?_
    refine hw_Vv (As := []) (rest := []) C T (c_H_passOneTick hG) (cwV 0 hts gX1_ticks_X1_passOneTick rfl rfl rfl (by decide +kernel) ⟨Nat.le_of_ble_eq_true rfl, Nat.le_of_ble_eq_true rfl⟩) hw_isH hw_ad rfl hl.1 rfl (Nat.le_of_ble_eq_true rfl) dX1_ticks_21 ⟨Nat.zero_le _, Nat.zero_le _⟩ (fun H locs T => ?_)
    refine lv_iinc (v := nI (i + 1)) (lv' := [(2, .int (nI (i + 1))), (0, .ref h), (1, .int (nI N))]) hx hb dX1_ticks_24 hl (k := 2) rfl (nI_1 i) (by decide) rfl (fun ls hl => ?_)
    refine lv_goto (tgt := 15) hx hb dX1_ticks_27 (by decide) ?_
    rw [show sp_ticks_loop n (k + 1) i G S = sp_ticks_loop n k (i + 1) ((sp_passOneTick G S n).1) ((sp_passOneTick G S n).2) from by rw [sp_ticks_loop]]
    exact ih (i + 1) _ _ (by omega) (sp_passOneTick_n hG) _ _ _ T (lv_sub hl [1, 2, 0] rfl)
/-- ticks, its picture -/
def sp_ticks (G : Nat → Int32) (S : Nat → Nat → Int32) (n : Nat) (x1 : Int32) : Int32 × (Nat → Int32) × (Nat → Nat → Int32) := if (sp_isWithin x1 0 1000) = 0 then ((-1), G, S) else (sp_ticks_loop n x1.toNatClampNeg 0 G S)
set_option maxHeartbeats 4000000 in
set_option maxRecDepth 100000 in
theorem c_H_ticks {x1 : Int32} (hG : hg_n G n) : MI l D ((cA, .object RX0) :: tz) yX1_ticks wsX1_ticks { frames := 6, cells := 0, slots := 0, locals := 131 } [.ref h, .int x1] (hw_W h a ad cA G S) ((sp_ticks G S n x1).1) (hw_W h a ad cA (sp_ticks G S n x1).2.1 (sp_ticks G S n x1).2.2) := by
  refine MI.start (cc := cX1_ticks) (maxL := 3) (by decide) rfl (Nat.le_of_ble_eq_true rfl) (fun p e s m args below meth c A ls C T hl => ?_)
  have hx := C.1.1
  have hb := C.1.2.1
  have hml := C.1.2.2.1
  have hown : s.vm.findClass RX1 = some m.cls := C.1.2.2.2.1
  have hts := C.1.2.2.2.2
  have hK := C.2.2.2.1
  have hinH : ∀ w ∈ wsX10, w ∈ wsX1_ticks := by decide +kernel
  have hn32 := hG.1
  have hl : lv_has ls 3 [(0, .ref h), (1, .int x1)] := hl
  refine lv_iload_n hx hb dX1_ticks_0 rfl (lv_at hl 1 rfl) ?_
  refine lv_iconst (v := 0) hx hb dX1_ticks_1 (by decide) ?_
  refine lv_sipush (v := 1000) hx hb dX1_ticks_2 (by decide) ?_
  refine hw_Si (As := [.int x1, .int 0, .int 1000]) (rest := []) C T (c_H_isWithin) (va_cwS 3 hts gX1_ticks_X1_isWithin rfl rfl rfl (by decide +kernel) ⟨Nat.le_of_ble_eq_true rfl, Nat.le_of_ble_eq_true rfl⟩) hw_ad rfl hl.1 rfl (Nat.le_of_ble_eq_true rfl) dX1_ticks_5 ⟨Nat.zero_le _, Nat.zero_le _⟩ (fun H locs T => ?_)
  refine lv_if_ne (tgt := 13) hx hb dX1_ticks_8 (by decide) (fun c_8 => ?_) (fun c_8 => ?_)
  · skip
    refine lv_iconst (v := 0) hx hb dX1_ticks_13 (by decide) ?_
    refine lv_istore_n (lv' := [(2, .int 0), (0, .ref h), (1, .int x1)]) hx hb dX1_ticks_14 rfl hl (by decide) rfl (fun ls hl => ?_)
    obtain ⟨N, hN1, rfl⟩ := sx_ticks c_8
    rw [show sp_ticks G S n (nI N) = sp_ticks_loop n N 0 G S from by unfold sp_ticks; simp only [if_neg c_8, nI_clamp (show N < 2 ^ 31 by omega)]]
    exact lp_ticks hN1 C N 0 _ _ (by omega) hG _ _ _ T (lv_sub hl [1, 2, 0] rfl)
  · skip
    refine lv_iconst (v := (-1)) hx hb dX1_ticks_11 (by decide) ?_
    have e9 : sp_ticks G S n x1 = ((-1), G, S) := by unfold sp_ticks; simp only [if_pos c_8]
    exact hw_iret C T rfl (by rw [e9]) (by rw [e9]) dX1_ticks_12
/-- of, its picture -/
def sp_of (G : Nat → Int32) (S : Nat → Nat → Int32) (n : Nat) (x1 : Int32) (x2 : Int32) : Int32 := if (sp_isSector G x1) = 0 then 100000 else (if x2 = 0 then (S x1.toNatClampNeg 6) else (if x2 = 1 then (S x1.toNatClampNeg 7) else (if x2 = 2 then (sp_lightNow G S x1.toNatClampNeg) else (if x2 = 3 then (S x1.toNatClampNeg 8) else (if x2 = 4 then (S x1.toNatClampNeg 9) else (if x2 = 5 then (S x1.toNatClampNeg 10) else (if x2 = 6 then (sp_lowFloor S n x1.toNatClampNeg) else (if x2 = 7 then (sp_highFloor S n x1.toNatClampNeg) else (if x2 = 8 then (sp_lowCeiling S n x1.toNatClampNeg) else (if x2 = 9 then (S x1.toNatClampNeg 11) else 100000))))))))))
set_option maxHeartbeats 4000000 in
set_option maxRecDepth 100000 in
theorem c_H_of {x1 : Int32} {x2 : Int32} (hG : hg_n G n) : MI l D ((cA, .object RX0) :: tz) yX1_of wsX1_of { frames := 2, cells := 0, slots := 0, locals := 44 } [.ref h, .int x1, .int x2] (hw_W h a ad cA G S) (sp_of G S n x1 x2) (hw_W h a ad cA G S) := by
  refine MI.start (cc := cX1_of) (maxL := 4) (by decide) rfl (Nat.le_of_ble_eq_true rfl) (fun p e s m args below meth c A ls C T hl => ?_)
  have hx := C.1.1
  have hb := C.1.2.1
  have hml := C.1.2.2.1
  have hown : s.vm.findClass RX1 = some m.cls := C.1.2.2.2.1
  have hts := C.1.2.2.2.2
  have hK := C.2.2.2.1
  have hN := C.2.2.2.2.1
  have hinH : ∀ w ∈ wsX10, w ∈ wsX1_of := by decide +kernel
  have hinS : ∀ w ∈ wsX00, w ∈ wsX1_of := by decide +kernel
  have hn32 := hG.1
  have hl : lv_has ls 4 [(0, .ref h), (1, .int x1), (2, .int x2)] := hl
  refine lv_aload_n hx hb dX1_of_0 rfl (lv_at hl 0 rfl) ?_
  refine lv_iload_n hx hb dX1_of_1 rfl (lv_at hl 1 rfl) ?_
  refine hw_Vi (As := [.int x1]) (rest := []) C T (c_H_isSector) (cwV 1 hts gX1_of_X1_isSector rfl rfl rfl (by decide +kernel) ⟨Nat.le_of_ble_eq_true rfl, Nat.le_of_ble_eq_true rfl⟩) hw_isH hw_ad rfl hl.1 rfl (Nat.le_of_ble_eq_true rfl) dX1_of_2 ⟨Nat.zero_le _, Nat.zero_le _⟩ (fun H locs T => ?_)
  refine lv_if_ne (tgt := 11) hx hb dX1_of_5 (by decide) (fun c_5 => ?_) (fun c_5 => ?_)
  · skip
    refine lv_aload_n hx hb dX1_of_11 rfl (lv_at hl 0 rfl) ?_
    refine va_get (D := D) (ci := 1) (v := .ref a) (C := RX1) (T := TX1) (N := 7) hx hb hts hinH hown hK T.1 0 rfl rfl 0 (by decide) (hts (.fieldLink RX1 11 "MoverHall" "sectors" "[LMoverHall$Sector;") (by decide +kernel)) (fun _ h9 => h9) rfl dX1_of_12 ?_
    refine lv_iload_n hx hb dX1_of_15 rfl (lv_at hl 1 rfl) ?_
    have h_16 : vp_in x1 32 := (sx_in hG c_5)
    refine va_aldq hx hb hK T.1 1 0 rfl rfl h_16 dX1_of_16 ?_
    refine W.eq (g2 := F0 m 17 ls [.ref (ad x1.toNatClampNeg)]) rfl ?_
    refine lv_astore_n (lv' := [(3, .ref (ad x1.toNatClampNeg)), (0, .ref h), (1, .int x1), (2, .int x2)]) hx hb dX1_of_17 rfl hl (by decide) rfl (fun ls hl => ?_)
    refine lv_iload_n hx hb dX1_of_18 rfl (lv_at hl 3 rfl) ?_
    by_cases c_19_0 : x2 = 0
    · skip
      refine lv_tableIn (off := 53) (tgt := 72) hx hb dX1_of_19 (by rw [c_19_0]; decide) (by rw [c_19_0]; decide) (by rw [c_19_0]; decide +kernel) (by decide) ?_
      refine lv_aload_n hx hb dX1_of_72 rfl (lv_at hl 0 rfl) ?_
      refine va_getN (D := D) (ci := 0) (v := .int (S x1.toNatClampNeg 6)) (C := RX0) (T := TX0) (N := 13) hx hb hts hinS hown hK T.1 (x1.toNatClampNeg + 2) (hw_at (sx_lt h_16)) rfl 6 (by decide) (va_Nw.use rfl (hN (.fieldLinkNest RX1 90 "MoverHall$Sector" "floor" "I" "MoverHall") (by decide +kernel))) (fun _ h9 => h9) rfl dX1_of_73 ?_
      have e9 : sp_of G S n x1 x2 = S x1.toNatClampNeg 6 := by unfold sp_of; simp only [if_neg c_5, if_pos c_19_0]
      exact hw_iret C T rfl e9.symm rfl dX1_of_76
    · skip
      by_cases c_19_1 : x2 = 1
      · skip
        refine lv_tableIn (off := 58) (tgt := 77) hx hb dX1_of_19 (by rw [c_19_1]; decide) (by rw [c_19_1]; decide) (by rw [c_19_1]; decide +kernel) (by decide) ?_
        refine lv_aload_n hx hb dX1_of_77 rfl (lv_at hl 0 rfl) ?_
        refine va_getN (D := D) (ci := 0) (v := .int (S x1.toNatClampNeg 7)) (C := RX0) (T := TX0) (N := 13) hx hb hts hinS hown hK T.1 (x1.toNatClampNeg + 2) (hw_at (sx_lt h_16)) rfl 7 (by decide) (va_Nw.use rfl (hN (.fieldLinkNest RX1 93 "MoverHall$Sector" "ceiling" "I" "MoverHall") (by decide +kernel))) (fun _ h9 => h9) rfl dX1_of_78 ?_
        have e9 : sp_of G S n x1 x2 = S x1.toNatClampNeg 7 := by unfold sp_of; simp only [if_neg c_5, if_neg c_19_0, if_pos c_19_1]
        exact hw_iret C T rfl e9.symm rfl dX1_of_81
      · skip
        by_cases c_19_2 : x2 = 2
        · skip
          refine lv_tableIn (off := 63) (tgt := 82) hx hb dX1_of_19 (by rw [c_19_2]; decide) (by rw [c_19_2]; decide) (by rw [c_19_2]; decide +kernel) (by decide) ?_
          refine lv_aload_n hx hb dX1_of_82 rfl (lv_at hl 1 rfl) ?_
          refine lv_aload_n hx hb dX1_of_83 rfl (lv_at hl 0 rfl) ?_
          refine hw_Vi (As := [.ref (ad x1.toNatClampNeg)]) (rest := []) C T (c_H_lightNow (sx_lt h_16)) (cwV 1 hts gX1_of_X1_lightNow rfl rfl rfl (by decide +kernel) ⟨Nat.le_of_ble_eq_true rfl, Nat.le_of_ble_eq_true rfl⟩) hw_isH hw_ad rfl hl.1 rfl (Nat.le_of_ble_eq_true rfl) dX1_of_84 ⟨Nat.zero_le _, Nat.zero_le _⟩ (fun H locs T => ?_)
          have e9 : sp_of G S n x1 x2 = sp_lightNow G S x1.toNatClampNeg := by unfold sp_of; simp only [if_neg c_5, if_neg c_19_0, if_neg c_19_1, if_pos c_19_2]
          exact hw_iret C T rfl e9.symm rfl dX1_of_87
        · skip
          by_cases c_19_3 : x2 = 3
          · skip
            refine lv_tableIn (off := 69) (tgt := 88) hx hb dX1_of_19 (by rw [c_19_3]; decide) (by rw [c_19_3]; decide) (by rw [c_19_3]; decide +kernel) (by decide) ?_
            refine lv_aload_n hx hb dX1_of_88 rfl (lv_at hl 0 rfl) ?_
            refine va_getN (D := D) (ci := 0) (v := .int (S x1.toNatClampNeg 8)) (C := RX0) (T := TX0) (N := 13) hx hb hts hinS hown hK T.1 (x1.toNatClampNeg + 2) (hw_at (sx_lt h_16)) rfl 8 (by decide) (va_Nw.use rfl (hN (.fieldLinkNest RX1 67 "MoverHall$Sector" "mover" "I" "MoverHall") (by decide +kernel))) (fun _ h9 => h9) rfl dX1_of_89 ?_
            have e9 : sp_of G S n x1 x2 = S x1.toNatClampNeg 8 := by unfold sp_of; simp only [if_neg c_5, if_neg c_19_0, if_neg c_19_1, if_neg c_19_2, if_pos c_19_3]
            exact hw_iret C T rfl e9.symm rfl dX1_of_92
          · skip
            by_cases c_19_4 : x2 = 4
            · skip
              refine lv_tableIn (off := 74) (tgt := 93) hx hb dX1_of_19 (by rw [c_19_4]; decide) (by rw [c_19_4]; decide) (by rw [c_19_4]; decide +kernel) (by decide) ?_
              refine lv_aload_n hx hb dX1_of_93 rfl (lv_at hl 0 rfl) ?_
              refine va_getN (D := D) (ci := 0) (v := .int (S x1.toNatClampNeg 9)) (C := RX0) (T := TX0) (N := 13) hx hb hts hinS hown hK T.1 (x1.toNatClampNeg + 2) (hw_at (sx_lt h_16)) rfl 9 (by decide) (va_Nw.use rfl (hN (.fieldLinkNest RX1 74 "MoverHall$Sector" "way" "I" "MoverHall") (by decide +kernel))) (fun _ h9 => h9) rfl dX1_of_94 ?_
              have e9 : sp_of G S n x1 x2 = S x1.toNatClampNeg 9 := by unfold sp_of; simp only [if_neg c_5, if_neg c_19_0, if_neg c_19_1, if_neg c_19_2, if_neg c_19_3, if_pos c_19_4]
              exact hw_iret C T rfl e9.symm rfl dX1_of_97
            · skip
              by_cases c_19_5 : x2 = 5
              · skip
                refine lv_tableIn (off := 79) (tgt := 98) hx hb dX1_of_19 (by rw [c_19_5]; decide) (by rw [c_19_5]; decide) (by rw [c_19_5]; decide +kernel) (by decide) ?_
                refine lv_aload_n hx hb dX1_of_98 rfl (lv_at hl 0 rfl) ?_
                refine va_getN (D := D) (ci := 0) (v := .int (S x1.toNatClampNeg 10)) (C := RX0) (T := TX0) (N := 13) hx hb hts hinS hown hK T.1 (x1.toNatClampNeg + 2) (hw_at (sx_lt h_16)) rfl 10 (by decide) (va_Nw.use rfl (hN (.fieldLinkNest RX1 100 "MoverHall$Sector" "waitLeft" "I" "MoverHall") (by decide +kernel))) (fun _ h9 => h9) rfl dX1_of_99 ?_
                have e9 : sp_of G S n x1 x2 = S x1.toNatClampNeg 10 := by unfold sp_of; simp only [if_neg c_5, if_neg c_19_0, if_neg c_19_1, if_neg c_19_2, if_neg c_19_3, if_neg c_19_4, if_pos c_19_5]
                exact hw_iret C T rfl e9.symm rfl dX1_of_102
              · skip
                by_cases c_19_6 : x2 = 6
                · skip
                  refine lv_tableIn (off := 84) (tgt := 103) hx hb dX1_of_19 (by rw [c_19_6]; decide) (by rw [c_19_6]; decide) (by rw [c_19_6]; decide +kernel) (by decide) ?_
                  refine lv_aload_n hx hb dX1_of_103 rfl (lv_at hl 1 rfl) ?_
                  refine lv_aload_n hx hb dX1_of_104 rfl (lv_at hl 0 rfl) ?_
                  refine hw_Vi (As := [.ref (ad x1.toNatClampNeg)]) (rest := []) C T (c_H_lowFloor (sx_lt h_16) hG) (cwV 1 hts gX1_of_X1_lowFloor rfl rfl rfl (by decide +kernel) ⟨Nat.le_of_ble_eq_true rfl, Nat.le_of_ble_eq_true rfl⟩) hw_isH hw_ad rfl hl.1 rfl (Nat.le_of_ble_eq_true rfl) dX1_of_105 ⟨Nat.zero_le _, Nat.zero_le _⟩ (fun H locs T => ?_)
                  have e9 : sp_of G S n x1 x2 = sp_lowFloor S n x1.toNatClampNeg := by unfold sp_of; simp only [if_neg c_5, if_neg c_19_0, if_neg c_19_1, if_neg c_19_2, if_neg c_19_3, if_neg c_19_4, if_neg c_19_5, if_pos c_19_6]
                  exact hw_iret C T rfl e9.symm rfl dX1_of_108
                · skip
                  by_cases c_19_7 : x2 = 7
                  · skip
                    refine lv_tableIn (off := 90) (tgt := 109) hx hb dX1_of_19 (by rw [c_19_7]; decide) (by rw [c_19_7]; decide) (by rw [c_19_7]; decide +kernel) (by decide) ?_
                    refine lv_aload_n hx hb dX1_of_109 rfl (lv_at hl 1 rfl) ?_
                    refine lv_aload_n hx hb dX1_of_110 rfl (lv_at hl 0 rfl) ?_
                    refine hw_Vi (As := [.ref (ad x1.toNatClampNeg)]) (rest := []) C T (c_H_highFloor (sx_lt h_16) hG) (cwV 1 hts gX1_of_X1_highFloor rfl rfl rfl (by decide +kernel) ⟨Nat.le_of_ble_eq_true rfl, Nat.le_of_ble_eq_true rfl⟩) hw_isH hw_ad rfl hl.1 rfl (Nat.le_of_ble_eq_true rfl) dX1_of_111 ⟨Nat.zero_le _, Nat.zero_le _⟩ (fun H locs T => ?_)
                    have e9 : sp_of G S n x1 x2 = sp_highFloor S n x1.toNatClampNeg := by unfold sp_of; simp only [if_neg c_5, if_neg c_19_0, if_neg c_19_1, if_neg c_19_2, if_neg c_19_3, if_neg c_19_4, if_neg c_19_5, if_neg c_19_6, if_pos c_19_7]
                    exact hw_iret C T rfl e9.symm rfl dX1_of_114
                  · skip
                    by_cases c_19_8 : x2 = 8
                    · skip
                      refine lv_tableIn (off := 96) (tgt := 115) hx hb dX1_of_19 (by rw [c_19_8]; decide) (by rw [c_19_8]; decide) (by rw [c_19_8]; decide +kernel) (by decide) ?_
                      refine lv_aload_n hx hb dX1_of_115 rfl (lv_at hl 1 rfl) ?_
                      refine lv_aload_n hx hb dX1_of_116 rfl (lv_at hl 0 rfl) ?_
                      refine hw_Vi (As := [.ref (ad x1.toNatClampNeg)]) (rest := []) C T (c_H_lowCeiling (sx_lt h_16) hG) (cwV 1 hts gX1_of_X1_lowCeiling rfl rfl rfl (by decide +kernel) ⟨Nat.le_of_ble_eq_true rfl, Nat.le_of_ble_eq_true rfl⟩) hw_isH hw_ad rfl hl.1 rfl (Nat.le_of_ble_eq_true rfl) dX1_of_117 ⟨Nat.zero_le _, Nat.zero_le _⟩ (fun H locs T => ?_)
                      have e9 : sp_of G S n x1 x2 = sp_lowCeiling S n x1.toNatClampNeg := by unfold sp_of; simp only [if_neg c_5, if_neg c_19_0, if_neg c_19_1, if_neg c_19_2, if_neg c_19_3, if_neg c_19_4, if_neg c_19_5, if_neg c_19_6, if_neg c_19_7, if_pos c_19_8]
                      exact hw_iret C T rfl e9.symm rfl dX1_of_120
                    · skip
                      by_cases c_19_9 : x2 = 9
                      · skip
                        refine lv_tableIn (off := 102) (tgt := 121) hx hb dX1_of_19 (by rw [c_19_9]; decide) (by rw [c_19_9]; decide) (by rw [c_19_9]; decide +kernel) (by decide) ?_
                        refine lv_aload_n hx hb dX1_of_121 rfl (lv_at hl 0 rfl) ?_
                        refine va_getN (D := D) (ci := 0) (v := .int (S x1.toNatClampNeg 11)) (C := RX0) (T := TX0) (N := 13) hx hb hts hinS hown hK T.1 (x1.toNatClampNeg + 2) (hw_at (sx_lt h_16)) rfl 11 (by decide) (va_Nw.use rfl (hN (.fieldLinkNest RX1 112 "MoverHall$Sector" "wayEnd" "I" "MoverHall") (by decide +kernel))) (fun _ h9 => h9) rfl dX1_of_122 ?_
                        have e9 : sp_of G S n x1 x2 = S x1.toNatClampNeg 11 := by unfold sp_of; simp only [if_neg c_5, if_neg c_19_0, if_neg c_19_1, if_neg c_19_2, if_neg c_19_3, if_neg c_19_4, if_neg c_19_5, if_neg c_19_6, if_neg c_19_7, if_neg c_19_8, if_pos c_19_9]
                        exact hw_iret C T rfl e9.symm rfl dX1_of_125
                      · skip
                        refine lv_tableOut (tgt := 126) hx hb dX1_of_19 (by have z0 := lv_neT (a := 0) c_19_0 (by decide); have z1 := lv_neT (a := 1) c_19_1 (by decide); have z2 := lv_neT (a := 2) c_19_2 (by decide); have z3 := lv_neT (a := 3) c_19_3 (by decide); have z4 := lv_neT (a := 4) c_19_4 (by decide); have z5 := lv_neT (a := 5) c_19_5 (by decide); have z6 := lv_neT (a := 6) c_19_6 (by decide); have z7 := lv_neT (a := 7) c_19_7 (by decide); have z8 := lv_neT (a := 8) c_19_8 (by decide); have z9 := lv_neT (a := 9) c_19_9 (by decide); omega) (by decide) ?_
                        refine lv_ldc (v := 100000) hx hb hown (hts (.constant RX1 89 100000) (by decide +kernel)) dX1_of_126 ?_
                        have e9 : sp_of G S n x1 x2 = 100000 := by unfold sp_of; simp only [if_neg c_5, if_neg c_19_0, if_neg c_19_1, if_neg c_19_2, if_neg c_19_3, if_neg c_19_4, if_neg c_19_5, if_neg c_19_6, if_neg c_19_7, if_neg c_19_8, if_neg c_19_9]
                        exact hw_iret C T rfl e9.symm rfl dX1_of_128
  · skip
    refine lv_ldc (v := 100000) hx hb hown (hts (.constant RX1 89 100000) (by decide +kernel)) dX1_of_8 ?_
    have e9 : sp_of G S n x1 x2 = 100000 := by unfold sp_of; simp only [if_pos c_5]
    exact hw_iret C T rfl e9.symm rfl dX1_of_10
/-- are, its picture -/
def sp_are (G : Nat → Int32) (S : Nat → Nat → Int32) (x1 : Int32) (x2 : Int32) : Int32 := if (sp_isSector G x1) = 0 then 0 else (if (sp_isSector G x2) = 0 then 0 else (if (sp_hasNeighbour S x1.toNatClampNeg x2) = 0 then 0 else 1))
theorem sx_are {G : Nat → Int32} {S : Nat → Nat → Int32} {n : Nat} {x1 x2 : Int32} (h : hg_n G n) (c : ¬ sp_are G S x1 x2 = 0) : vp_in x1 32 ∧ vp_in x2 32 := by
  unfold sp_are at c
  by_cases h1 : sp_isSector G x1 = 0
  · simp [h1] at c
  · by_cases h2 : sp_isSector G x2 = 0
    · simp [h2] at c
    · exact ⟨sx_in h h1, sx_in h h2⟩
set_option maxHeartbeats 4000000 in
set_option maxRecDepth 100000 in
theorem c_H_are {x1 : Int32} {x2 : Int32} (hG : hg_n G n) : MI l D ((cA, .object RX0) :: tz) yX1_are wsX1_are { frames := 1, cells := 0, slots := 0, locals := 21 } [.ref h, .int x1, .int x2] (hw_W h a ad cA G S) (sp_are G S x1 x2) (hw_W h a ad cA G S) := by
  refine MI.start (cc := cX1_are) (maxL := 3) (by decide) rfl (Nat.le_of_ble_eq_true rfl) (fun p e s m args below meth c A ls C T hl => ?_)
  have hx := C.1.1
  have hb := C.1.2.1
  have hml := C.1.2.2.1
  have hown : s.vm.findClass RX1 = some m.cls := C.1.2.2.2.1
  have hts := C.1.2.2.2.2
  have hK := C.2.2.2.1
  have hN := C.2.2.2.2.1
  have hinH : ∀ w ∈ wsX10, w ∈ wsX1_are := by decide +kernel
  have hn32 := hG.1
  have hl : lv_has ls 3 [(0, .ref h), (1, .int x1), (2, .int x2)] := hl
  refine lv_aload_n hx hb dX1_are_0 rfl (lv_at hl 0 rfl) ?_
  refine lv_iload_n hx hb dX1_are_1 rfl (lv_at hl 1 rfl) ?_
  refine hw_Vi (As := [.int x1]) (rest := []) C T (c_H_isSector) (cwV 1 hts gX1_are_X1_isSector rfl rfl rfl (by decide +kernel) ⟨Nat.le_of_ble_eq_true rfl, Nat.le_of_ble_eq_true rfl⟩) hw_isH hw_ad rfl hl.1 rfl (Nat.le_of_ble_eq_true rfl) dX1_are_2 ⟨Nat.zero_le _, Nat.zero_le _⟩ (fun H locs T => ?_)
  refine lv_if_eq (tgt := 33) hx hb dX1_are_5 (by decide) (fun c_5 => ?_) (fun c_5 => ?_)
  · skip
    refine lv_iconst (v := 0) hx hb dX1_are_33 (by decide) ?_
    have e9 : sp_are G S x1 x2 = 0 := by unfold sp_are; simp only [if_pos c_5]
    exact hw_iret C T (by decide) e9.symm rfl dX1_are_34
  · skip
    refine lv_aload_n hx hb dX1_are_8 rfl (lv_at hl 0 rfl) ?_
    refine lv_iload_n hx hb dX1_are_9 rfl (lv_at hl 2 rfl) ?_
    refine hw_Vi (As := [.int x2]) (rest := []) C T (c_H_isSector) (cwV 1 hts gX1_are_X1_isSector rfl rfl rfl (by decide +kernel) ⟨Nat.le_of_ble_eq_true rfl, Nat.le_of_ble_eq_true rfl⟩) hw_isH hw_ad rfl hl.1 rfl (Nat.le_of_ble_eq_true rfl) dX1_are_10 ⟨Nat.zero_le _, Nat.zero_le _⟩ (fun H locs T => ?_)
    refine lv_if_eq (tgt := 33) hx hb dX1_are_13 (by decide) (fun c_13 => ?_) (fun c_13 => ?_)
    · skip
      refine lv_iconst (v := 0) hx hb dX1_are_33 (by decide) ?_
      have e9 : sp_are G S x1 x2 = 0 := by unfold sp_are; simp only [if_neg c_5, if_pos c_13]
      exact hw_iret C T (by decide) e9.symm rfl dX1_are_34
    · skip
      refine lv_aload_n hx hb dX1_are_16 rfl (lv_at hl 0 rfl) ?_
      refine va_get (D := D) (ci := 1) (v := .ref a) (C := RX1) (T := TX1) (N := 7) hx hb hts hinH hown hK T.1 0 rfl rfl 0 (by decide) (hts (.fieldLink RX1 11 "MoverHall" "sectors" "[LMoverHall$Sector;") (by decide +kernel)) (fun _ h9 => h9) rfl dX1_are_17 ?_
      refine lv_iload_n hx hb dX1_are_20 rfl (lv_at hl 1 rfl) ?_
      have h_21 : vp_in x1 32 := (sx_in hG c_5)
      refine va_aldq hx hb hK T.1 1 0 rfl rfl h_21 dX1_are_21 ?_
      refine W.eq (g2 := F0 m 22 ls [.ref (ad x1.toNatClampNeg)]) rfl ?_
      refine lv_iload_n hx hb dX1_are_22 rfl (lv_at hl 2 rfl) ?_
      refine hw_Ni (As := [.int x2]) (rest := []) C T (c_S_hasNeighbour (sx_lt h_21)) ⟨va_cnB 1 hts gX1_are_X0_hasNeighbour_n42 rfl rfl rfl (hN (.methodLinkNest RX1 42 yX0_hasNeighbour "MoverHall") (by decide +kernel)) (hts (.initialized RX0) (by decide +kernel)) (by decide +kernel) ⟨Nat.le_of_ble_eq_true rfl, Nat.le_of_ble_eq_true rfl⟩, hts (.instanceMethod yX0_hasNeighbour) (by decide +kernel), hts (.selects RX0 yX0_hasNeighbour yX0_hasNeighbour) (by decide +kernel)⟩ (hw_isS (sx_lt h_21)) hw_ad rfl hl.1 rfl (Nat.le_of_ble_eq_true rfl) dX1_are_23 ⟨Nat.zero_le _, Nat.zero_le _⟩ (fun H locs T => ?_)
      refine lv_if_eq (tgt := 33) hx hb dX1_are_26 (by decide) (fun c_26 => ?_) (fun c_26 => ?_)
      · skip
        refine lv_iconst (v := 0) hx hb dX1_are_33 (by decide) ?_
        have e9 : sp_are G S x1 x2 = 0 := by unfold sp_are; simp only [if_neg c_5, if_neg c_13, if_pos c_26]
        exact hw_iret C T (by decide) e9.symm rfl dX1_are_34
      · skip
        refine lv_iconst (v := 1) hx hb dX1_are_29 (by decide) ?_
        refine lv_goto (tgt := 34) hx hb dX1_are_30 (by decide) ?_
        have e9 : sp_are G S x1 x2 = 1 := by unfold sp_are; simp only [if_neg c_5, if_neg c_13, if_neg c_26]
        exact hw_iret C T (by decide) e9.symm rfl dX1_are_34
/-- opn, its picture -/
def sp_open (G : Nat → Int32) (S : Nat → Nat → Int32) (x1 : Int32) (x2 : Int32) : Int32 := if (sp_are G S x1 x2) = 0 then 0 else (if 24 < ((S x2.toNatClampNeg 6) - (S x1.toNatClampNeg 6)) then 0 else (if ((sp_min (S x1.toNatClampNeg 7) (S x2.toNatClampNeg 7)) - (sp_max (S x1.toNatClampNeg 6) (S x2.toNatClampNeg 6))) < 56 then 0 else 1))
set_option maxHeartbeats 4000000 in
set_option maxRecDepth 100000 in
theorem c_H_open {x1 : Int32} {x2 : Int32} (hG : hg_n G n) : MI l D ((cA, .object RX0) :: tz) yX1_open wsX1_open { frames := 2, cells := 0, slots := 0, locals := 43 } [.ref h, .int x1, .int x2] (hw_W h a ad cA G S) (sp_open G S x1 x2) (hw_W h a ad cA G S) := by
  refine MI.start (cc := cX1_open) (maxL := 6) (by decide) rfl (Nat.le_of_ble_eq_true rfl) (fun p e s m args below meth c A ls C T hl => ?_)
  have hx := C.1.1
  have hb := C.1.2.1
  have hml := C.1.2.2.1
  have hown : s.vm.findClass RX1 = some m.cls := C.1.2.2.2.1
  have hts := C.1.2.2.2.2
  have hK := C.2.2.2.1
  have hN := C.2.2.2.2.1
  have hinH : ∀ w ∈ wsX10, w ∈ wsX1_open := by decide +kernel
  have hinS : ∀ w ∈ wsX00, w ∈ wsX1_open := by decide +kernel
  have hn32 := hG.1
  have hl : lv_has ls 6 [(0, .ref h), (1, .int x1), (2, .int x2)] := hl
  refine lv_aload_n hx hb dX1_open_0 rfl (lv_at hl 0 rfl) ?_
  refine lv_iload_n hx hb dX1_open_1 rfl (lv_at hl 1 rfl) ?_
  refine lv_iload_n hx hb dX1_open_2 rfl (lv_at hl 2 rfl) ?_
  refine hw_Vi (As := [.int x1, .int x2]) (rest := []) C T (c_H_are hG) (cwV 2 hts gX1_open_X1_are rfl rfl rfl (by decide +kernel) ⟨Nat.le_of_ble_eq_true rfl, Nat.le_of_ble_eq_true rfl⟩) hw_isH hw_ad rfl hl.1 rfl (Nat.le_of_ble_eq_true rfl) dX1_open_3 ⟨Nat.zero_le _, Nat.zero_le _⟩ (fun H locs T => ?_)
  refine lv_if_ne (tgt := 11) hx hb dX1_open_6 (by decide) (fun c_6 => ?_) (fun c_6 => ?_)
  · skip
    refine lv_aload_n hx hb dX1_open_11 rfl (lv_at hl 0 rfl) ?_
    refine va_get (D := D) (ci := 1) (v := .ref a) (C := RX1) (T := TX1) (N := 7) hx hb hts hinH hown hK T.1 0 rfl rfl 0 (by decide) (hts (.fieldLink RX1 11 "MoverHall" "sectors" "[LMoverHall$Sector;") (by decide +kernel)) (fun _ h9 => h9) rfl dX1_open_12 ?_
    refine lv_iload_n hx hb dX1_open_15 rfl (lv_at hl 1 rfl) ?_
    have h_16 : vp_in x1 32 := (sx_are hG c_6).1
    refine va_aldq hx hb hK T.1 1 0 rfl rfl h_16 dX1_open_16 ?_
    refine W.eq (g2 := F0 m 17 ls [.ref (ad x1.toNatClampNeg)]) rfl ?_
    refine lv_astore_n (lv' := [(3, .ref (ad x1.toNatClampNeg)), (0, .ref h), (1, .int x1), (2, .int x2)]) hx hb dX1_open_17 rfl hl (by decide) rfl (fun ls hl => ?_)
    refine lv_aload_n hx hb dX1_open_18 rfl (lv_at hl 1 rfl) ?_
    refine va_get (D := D) (ci := 1) (v := .ref a) (C := RX1) (T := TX1) (N := 7) hx hb hts hinH hown hK T.1 0 rfl rfl 0 (by decide) (hts (.fieldLink RX1 11 "MoverHall" "sectors" "[LMoverHall$Sector;") (by decide +kernel)) (fun _ h9 => h9) rfl dX1_open_19 ?_
    refine lv_iload_n hx hb dX1_open_22 rfl (lv_at hl 3 rfl) ?_
    have h_23 : vp_in x2 32 := (sx_are hG c_6).2
    refine va_aldq hx hb hK T.1 1 0 rfl rfl h_23 dX1_open_23 ?_
    refine W.eq (g2 := F0 m 24 ls [.ref (ad x2.toNatClampNeg)]) rfl ?_
    refine lv_astore (lv' := [(4, .ref (ad x2.toNatClampNeg)), (3, .ref (ad x1.toNatClampNeg)), (0, .ref h), (1, .int x1), (2, .int x2)]) hx hb dX1_open_24 hl (by decide) rfl (fun ls hl => ?_)
    refine lv_aload_n hx hb dX1_open_26 rfl (lv_at hl 1 rfl) ?_
    refine va_getN (D := D) (ci := 0) (v := .int (S x1.toNatClampNeg 7)) (C := RX0) (T := TX0) (N := 13) hx hb hts hinS hown hK T.1 (x1.toNatClampNeg + 2) (hw_at (sx_lt h_16)) rfl 7 (by decide) (va_Nw.use rfl (hN (.fieldLinkNest RX1 93 "MoverHall$Sector" "ceiling" "I" "MoverHall") (by decide +kernel))) (fun _ h9 => h9) rfl dX1_open_27 ?_
    refine lv_aload hx hb dX1_open_30 (lv_at hl 0 rfl) ?_
    refine va_getN (D := D) (ci := 0) (v := .int (S x2.toNatClampNeg 7)) (C := RX0) (T := TX0) (N := 13) hx hb hts hinS hown hK T.1 (x2.toNatClampNeg + 2) (hw_at (sx_lt h_23)) rfl 7 (by decide) (va_Nw.use rfl (hN (.fieldLinkNest RX1 93 "MoverHall$Sector" "ceiling" "I" "MoverHall") (by decide +kernel))) (fun _ h9 => h9) rfl dX1_open_32 ?_
    refine va_mmin hx hb (by rw [hml, hl.1]) hown (hts (.methodLink RX1 118 Lib.Math.min.name) (by decide +kernel)) (hts (.static Lib.Math.min.name) (by decide +kernel)) (hts (.initialized "java/lang/Math") (by decide +kernel)) (hts (.code Lib.Math.min.name Lib.Math.min.code 2 (some .int)) (by decide +kernel)) (Nat.le_of_ble_eq_true rfl) (Nat.le_of_ble_eq_true rfl) (Nat.zero_le _) (Nat.zero_le _) dX1_open_35 ?_
    refine W.eq (g2 := F0 m 38 ls [.int (sp_min (S x1.toNatClampNeg 7) (S x2.toNatClampNeg 7))]) rfl ?_
    refine lv_aload_n hx hb dX1_open_38 rfl (lv_at hl 1 rfl) ?_
    refine va_getN (D := D) (ci := 0) (v := .int (S x1.toNatClampNeg 6)) (C := RX0) (T := TX0) (N := 13) hx hb hts hinS hown hK T.1 (x1.toNatClampNeg + 2) (hw_at (sx_lt h_16)) rfl 6 (by decide) (va_Nw.use rfl (hN (.fieldLinkNest RX1 90 "MoverHall$Sector" "floor" "I" "MoverHall") (by decide +kernel))) (fun _ h9 => h9) rfl dX1_open_39 ?_
    refine lv_aload hx hb dX1_open_42 (lv_at hl 0 rfl) ?_
    refine va_getN (D := D) (ci := 0) (v := .int (S x2.toNatClampNeg 6)) (C := RX0) (T := TX0) (N := 13) hx hb hts hinS hown hK T.1 (x2.toNatClampNeg + 2) (hw_at (sx_lt h_23)) rfl 6 (by decide) (va_Nw.use rfl (hN (.fieldLinkNest RX1 90 "MoverHall$Sector" "floor" "I" "MoverHall") (by decide +kernel))) (fun _ h9 => h9) rfl dX1_open_44 ?_
    refine va_mmax hx hb (by rw [hml, hl.1]) hown (hts (.methodLink RX1 124 Lib.Math.max.name) (by decide +kernel)) (hts (.static Lib.Math.max.name) (by decide +kernel)) (hts (.initialized "java/lang/Math") (by decide +kernel)) (hts (.code Lib.Math.max.name Lib.Math.max.code 2 (some .int)) (by decide +kernel)) (Nat.le_of_ble_eq_true rfl) (Nat.le_of_ble_eq_true rfl) (Nat.zero_le _) (Nat.zero_le _) dX1_open_47 ?_
    refine W.eq (g2 := F0 m 50 ls [.int (sp_max (S x1.toNatClampNeg 6) (S x2.toNatClampNeg 6)), .int (sp_min (S x1.toNatClampNeg 7) (S x2.toNatClampNeg 7))]) rfl ?_
    refine lv_isub hx hb dX1_open_50 ?_
    refine lv_istore (lv' := [(5, .int ((sp_min (S x1.toNatClampNeg 7) (S x2.toNatClampNeg 7)) - (sp_max (S x1.toNatClampNeg 6) (S x2.toNatClampNeg 6)))), (4, .ref (ad x2.toNatClampNeg)), (3, .ref (ad x1.toNatClampNeg)), (0, .ref h), (1, .int x1), (2, .int x2)]) hx hb dX1_open_51 hl (by decide) rfl (fun ls hl => ?_)
    refine lv_aload hx hb dX1_open_53 (lv_at hl 1 rfl) ?_
    refine va_getN (D := D) (ci := 0) (v := .int (S x2.toNatClampNeg 6)) (C := RX0) (T := TX0) (N := 13) hx hb hts hinS hown hK T.1 (x2.toNatClampNeg + 2) (hw_at (sx_lt h_23)) rfl 6 (by decide) (va_Nw.use rfl (hN (.fieldLinkNest RX1 90 "MoverHall$Sector" "floor" "I" "MoverHall") (by decide +kernel))) (fun _ h9 => h9) rfl dX1_open_55 ?_
    refine lv_aload_n hx hb dX1_open_58 rfl (lv_at hl 2 rfl) ?_
    refine va_getN (D := D) (ci := 0) (v := .int (S x1.toNatClampNeg 6)) (C := RX0) (T := TX0) (N := 13) hx hb hts hinS hown hK T.1 (x1.toNatClampNeg + 2) (hw_at (sx_lt h_16)) rfl 6 (by decide) (va_Nw.use rfl (hN (.fieldLinkNest RX1 90 "MoverHall$Sector" "floor" "I" "MoverHall") (by decide +kernel))) (fun _ h9 => h9) rfl dX1_open_59 ?_
    refine lv_isub hx hb dX1_open_62 ?_
    refine lv_bipush (v := 24) hx hb dX1_open_63 (by decide) ?_
    refine lv_icmp_gt (tgt := 79) hx hb dX1_open_65 (by decide) (fun c_65 => ?_) (fun c_65 => ?_)
    · skip
      refine lv_iconst (v := 0) hx hb dX1_open_79 (by decide) ?_
      have e9 : sp_open G S x1 x2 = 0 := by unfold sp_open; simp only [if_neg c_6, if_pos c_65]
      exact hw_iret C T (by decide) e9.symm rfl dX1_open_80
    · skip
      refine lv_iload hx hb dX1_open_68 (lv_at hl 0 rfl) ?_
      refine lv_bipush (v := 56) hx hb dX1_open_70 (by decide) ?_
      refine lv_icmp_lt (tgt := 79) hx hb dX1_open_72 (by decide) (fun c_72 => ?_) (fun c_72 => ?_)
      · skip
        refine lv_iconst (v := 0) hx hb dX1_open_79 (by decide) ?_
        have e9 : sp_open G S x1 x2 = 0 := by unfold sp_open; simp only [if_neg c_6, if_neg c_65, if_pos c_72]
        exact hw_iret C T (by decide) e9.symm rfl dX1_open_80
      · skip
        refine lv_iconst (v := 1) hx hb dX1_open_75 (by decide) ?_
        refine lv_goto (tgt := 80) hx hb dX1_open_76 (by decide) ?_
        have e9 : sp_open G S x1 x2 = 1 := by unfold sp_open; simp only [if_neg c_6, if_neg c_65, if_neg c_72]
        exact hw_iret C T (by decide) e9.symm rfl dX1_open_80
  · skip
    refine lv_iconst (v := 0) hx hb dX1_open_9 (by decide) ?_
    have e9 : sp_open G S x1 x2 = 0 := by unfold sp_open; simp only [if_pos c_6]
    exact hw_iret C T (by decide) e9.symm rfl dX1_open_10
end
