section
variable {l : Launch} {D : va_G} {o : Nat} {am : Nat → Nat} {cm : Nat → ClassId} {t0 : ClassId × FieldType} {G : Nat → Int32} {S : Nat → Nat → Int32} {B : Nat → Int32} {n : Nat}
/-- isSector, its picture -/
def sm_isSector (G : Nat → Int32) (x1 : Int32) : Int32 := if x1 < 0 then 0 else (if (G 0) ≤ x1 then 0 else 1)
theorem mx_n {G : Nat → Int32} {n : Nat} {x : Int32} (h : hg_n G n) (c : ¬ sm_isSector G x = 0) : ∃ j : Nat, j < n ∧ x = nI j := sx_n h c
theorem mx_in {G : Nat → Int32} {n : Nat} {x : Int32} (h : hg_n G n) (c : ¬ sm_isSector G x = 0) : vp_in x 32 := sx_in h c
set_option maxHeartbeats 4000000 in
set_option maxRecDepth 100000 in
theorem c_M_isSector {x1 : Int32}  : MI l D (t0 :: md_tys cm) yX3_isSector wsX3_isSector { frames := 0, cells := 0, slots := 0, locals := 0 } [.ref o, .int x1] (md_W o am cm G S B) (sm_isSector G x1) (md_W o am cm G S B) := by
  refine MI.start (cc := cX3_isSector) (maxL := 2) (by decide) rfl (Nat.le_of_ble_eq_true rfl) (fun p e s m args below meth c A ls C T hl => ?_)
  have hx := C.1.1
  have hb := C.1.2.1
  have hml := C.1.2.2.1
  have hown : s.vm.findClass RX3 = some m.cls := C.1.2.2.2.1
  have hts := C.1.2.2.2.2
  have hK := C.2.2.2.1
  have hinM : ∀ w ∈ wsX30, w ∈ wsX3_isSector := fun w h => List.mem_cons_of_mem _ (inX3 w h)
  have hl : lv_has ls 2 [(0, .ref o), (1, .int x1)] := hl
  refine lv_iload_n hx hb dX3_isSector_0 rfl (lv_at hl 1 rfl) ?_
  refine lv_if_lt (tgt := 16) hx hb dX3_isSector_1 (by decide) (fun c_1 => ?_) (fun c_1 => ?_)
  · skip
    refine lv_iconst (v := 0) hx hb dX3_isSector_16 (by decide) ?_
    have e9 : sm_isSector G x1 = 0 := by unfold sm_isSector; simp only [if_pos c_1]
    exact hw_iret C T (by decide) e9.symm rfl dX3_isSector_17
  · skip
    refine lv_iload_n hx hb dX3_isSector_4 rfl (lv_at hl 1 rfl) ?_
    refine lv_aload_n hx hb dX3_isSector_5 rfl (lv_at hl 0 rfl) ?_
    refine va_get (D := D) (ci := 2) (v := .int (G 0)) (C := RX3) (T := TX3) (N := 19) hx hb hts hinM hown hK T.1 0 rfl rfl 1 (by decide) (hts _ (List.mem_cons_of_mem _ k3_f57)) (fun _ h9 => h9) rfl dX3_isSector_6 ?_
    refine lv_icmp_ge (tgt := 16) hx hb dX3_isSector_9 (by decide) (fun c_9 => ?_) (fun c_9 => ?_)
    · skip
      refine lv_iconst (v := 0) hx hb dX3_isSector_16 (by decide) ?_
      have e9 : sm_isSector G x1 = 0 := by unfold sm_isSector; simp only [if_neg c_1, if_pos c_9]
      exact hw_iret C T (by decide) e9.symm rfl dX3_isSector_17
    · skip
      refine lv_iconst (v := 1) hx hb dX3_isSector_12 (by decide) ?_
      refine lv_goto (tgt := 17) hx hb dX3_isSector_13 (by decide) ?_
      have e9 : sm_isSector G x1 = 1 := by unfold sm_isSector; simp only [if_neg c_1, if_neg c_9]
      exact hw_iret C T (by decide) e9.symm rfl dX3_isSector_17
/-- lowFloor: its loop, by what is left to do -/
def sm_lowFloor_loop (S : Nat → Nat → Int32) (B : Nat → Int32) (x1 : Int32) : Nat → Nat → Int32 → Int32
  | 0, _, x => x
  | k + 1, i, x => if (B (((32 * x1) + (nI i)).toNatClampNeg)) = 0 then (sm_lowFloor_loop S B x1 k (i + 1) x) else (if x ≤ (S i 6) then (sm_lowFloor_loop S B x1 k (i + 1) x) else (sm_lowFloor_loop S B x1 k (i + 1) (S i 6)))
set_option maxHeartbeats 4000000 in
set_option maxRecDepth 100000 in
theorem lp_m_lowFloor {p : Program} {e : Env} {s : State} {m : MethodId} {args : Array Value} {below : List Frame} {meth : Method} {c : Code} {A : Nat → Prop} {x1 : Int32} (h1 : vp_in x1 32) (hG : hg_n G n) (C : hw_C p s m args meth c cX3_lowFloor (some .int) 4 wsX3_lowFloor yX3_lowFloor.cls D (t0 :: md_tys cm) A) :
    ∀ (k i : Nat) (x : Int32), i + k = n → ∀ (ls : Array Slot) (H : Heap) (locs : List Loc), hw_T D A s.heap (md_W o am cm G S B) H locs → lv_has ls 4 [(0, .ref o), (1, .int x1), (2, .int x), (3, .int (nI i))] → W p l e { frames := 0, cells := 0, slots := 0, locals := 0 } s m args below meth c H locs 0 0 (MQ below (va_Qi (fun (r' : Int32) (_ : Unit) => r' = sm_lowFloor_loop S B x1 k i x) (fun _ t => va_P D vwCl (md_W o am cm G S B) t.heap) A) args s 0 0 A) (F0 m 9 ls []) := by
  have hx := C.1.1
  have hb := C.1.2.1
  have hml := C.1.2.2.1
  have hown : s.vm.findClass RX3 = some m.cls := C.1.2.2.2.1
  have hts := C.1.2.2.2.2
  have hK := C.2.2.2.1
  have hinM : ∀ w ∈ wsX30, w ∈ wsX3_lowFloor := fun w h => List.mem_cons_of_mem _ (inX3 w h)
  have hn32 := hG.1
  intro k
  induction k with
  | zero =>
    intro i x hik ls H locs T hl
    refine lv_iload_n hx hb dX3_lowFloor_9 rfl (lv_at hl 3 rfl) ?_
    refine lv_aload_n hx hb dX3_lowFloor_10 rfl (lv_at hl 0 rfl) ?_
    refine va_get (D := D) (ci := 2) (v := .int (G 0)) (C := RX3) (T := TX3) (N := 19) hx hb hts hinM hown hK T.1 0 rfl rfl 1 (by decide) (hts _ (List.mem_cons_of_mem _ k3_f57)) (fun _ h9 => h9) rfl dX3_lowFloor_11 ?_
    refine lv_icmp_ge (tgt := 58) hx hb dX3_lowFloor_14 (by decide) (fun c_14 => ?_) (fun c_14 => absurd (show G 0 ≤ nI i by rw [hG.2]; exact nI_le (show n ≤ i by omega) (by omega)) c_14)
    refine lv_iload_n hx hb dX3_lowFloor_58 rfl (lv_at hl 2 rfl) ?_
    have e9 : sm_lowFloor_loop S B x1 0 i x = x := by rw [sm_lowFloor_loop]
    exact hw_iret C T rfl e9.symm rfl dX3_lowFloor_59
  | succ k ih =>
    intro i x hik ls H locs T hl
    refine lv_iload_n hx hb dX3_lowFloor_9 rfl (lv_at hl 3 rfl) ?_
    refine lv_aload_n hx hb dX3_lowFloor_10 rfl (lv_at hl 0 rfl) ?_
    refine va_get (D := D) (ci := 2) (v := .int (G 0)) (C := RX3) (T := TX3) (N := 19) hx hb hts hinM hown hK T.1 0 rfl rfl 1 (by decide) (hts _ (List.mem_cons_of_mem _ k3_f57)) (fun _ h9 => h9) rfl dX3_lowFloor_11 ?_
    refine lv_icmp_ge (tgt := 58) hx hb dX3_lowFloor_14 (by decide) (fun c_14 => absurd c_14 (show ¬ G 0 ≤ nI i by rw [hG.2]; exact nI_ge (show i < n by omega) (by omega))) (fun c_14 => ?_)
    refine lv_aload_n hx hb dX3_lowFloor_17 rfl (lv_at hl 0 rfl) ?_
    refine va_get (D := D) (ci := 2) (v := .ref (am 5)) (C := RX3) (T := TX3) (N := 19) hx hb hts hinM hown hK T.1 0 rfl rfl 7 (by decide) (hts _ (List.mem_cons_of_mem _ k3_f25)) (fun _ h9 => h9) rfl dX3_lowFloor_18 ?_
    refine lv_bipush (v := 32) hx hb dX3_lowFloor_21 (by decide) ?_
    refine lv_iload_n hx hb dX3_lowFloor_23 rfl (lv_at hl 1 rfl) ?_
    refine lv_imul hx hb dX3_lowFloor_24 ?_
    refine lv_iload_n hx hb dX3_lowFloor_25 rfl (lv_at hl 3 rfl) ?_
    refine lv_iadd hx hb dX3_lowFloor_26 ?_
    have h_27 : vp_in ((32 * x1) + (nI i)) 1024 := (mb_in h1 (vp_in_nI (show i < 32 by omega) (by decide)))
    refine va_zald hx hb hK T.1 6 6 rfl rfl h_27 dX3_lowFloor_27 ?_
    refine W.eq (g2 := F0 m 28 ls [.int (B (((32 * x1) + (nI i)).toNatClampNeg))]) rfl ?_
    refine lv_if_eq (tgt := 50) hx hb dX3_lowFloor_28 (by decide) (fun c_28 => ?_) (fun c_28 => ?_)
    · skip
      refine lv_iload_n hx hb dX3_lowFloor_50 rfl (lv_at hl 2 rfl) ?_
      refine lv_istore_n (lv' := [(2, .int x), (0, .ref o), (1, .int x1), (3, .int (nI i))]) hx hb dX3_lowFloor_51 rfl hl (by decide) rfl (fun ls hl => ?_)
      refine lv_iinc (v := nI (i + 1)) (lv' := [(3, .int (nI (i + 1))), (2, .int x), (0, .ref o), (1, .int x1)]) hx hb dX3_lowFloor_52 hl (k := 3) rfl (nI_1 i) (by decide) rfl (fun ls hl => ?_)
      refine lv_goto (tgt := 9) hx hb dX3_lowFloor_55 (by decide) ?_
      rw [show sm_lowFloor_loop S B x1 (k + 1) i x = sm_lowFloor_loop S B x1 k (i + 1) x from by rw [sm_lowFloor_loop]; simp only [if_pos c_28]]
      exact ih (i + 1) _ (by omega) _ _ _ T (lv_sub hl [2, 3, 1, 0] rfl)
    · skip
      refine lv_aload_n hx hb dX3_lowFloor_31 rfl (lv_at hl 0 rfl) ?_
      refine va_get (D := D) (ci := 2) (v := .ref (am 6)) (C := RX3) (T := TX3) (N := 19) hx hb hts hinM hown hK T.1 0 rfl rfl 9 (by decide) (hts _ (List.mem_cons_of_mem _ k3_f29)) (fun _ h9 => h9) rfl dX3_lowFloor_32 ?_
      refine lv_iload_n hx hb dX3_lowFloor_35 rfl (lv_at hl 3 rfl) ?_
      have h_36 : vp_in (nI i) 32 := vp_in_nI (show i < 32 by omega) (by decide)
      refine va_iald hx hb hK T.1 7 7 rfl rfl h_36 dX3_lowFloor_36 ?_
      refine W.eq (g2 := F0 m 37 ls [.int (S i 6)]) (by rw [nI_clamp (show i < 2 ^ 31 by omega)] <;> rfl) ?_
      refine lv_iload_n hx hb dX3_lowFloor_37 rfl (lv_at hl 2 rfl) ?_
      refine lv_icmp_ge (tgt := 50) hx hb dX3_lowFloor_38 (by decide) (fun c_38 => ?_) (fun c_38 => ?_)
      · skip
        refine lv_iload_n hx hb dX3_lowFloor_50 rfl (lv_at hl 2 rfl) ?_
        refine lv_istore_n (lv' := [(2, .int x), (0, .ref o), (1, .int x1), (3, .int (nI i))]) hx hb dX3_lowFloor_51 rfl hl (by decide) rfl (fun ls hl => ?_)
        refine lv_iinc (v := nI (i + 1)) (lv' := [(3, .int (nI (i + 1))), (2, .int x), (0, .ref o), (1, .int x1)]) hx hb dX3_lowFloor_52 hl (k := 3) rfl (nI_1 i) (by decide) rfl (fun ls hl => ?_)
        refine lv_goto (tgt := 9) hx hb dX3_lowFloor_55 (by decide) ?_
        rw [show sm_lowFloor_loop S B x1 (k + 1) i x = sm_lowFloor_loop S B x1 k (i + 1) x from by rw [sm_lowFloor_loop]; simp only [if_neg c_28, if_pos c_38]]
        exact ih (i + 1) _ (by omega) _ _ _ T (lv_sub hl [2, 3, 1, 0] rfl)
      · skip
        refine lv_aload_n hx hb dX3_lowFloor_41 rfl (lv_at hl 0 rfl) ?_
        refine va_get (D := D) (ci := 2) (v := .ref (am 6)) (C := RX3) (T := TX3) (N := 19) hx hb hts hinM hown hK T.1 0 rfl rfl 9 (by decide) (hts _ (List.mem_cons_of_mem _ k3_f29)) (fun _ h9 => h9) rfl dX3_lowFloor_42 ?_
        refine lv_iload_n hx hb dX3_lowFloor_45 rfl (lv_at hl 3 rfl) ?_
        have h_46 : vp_in (nI i) 32 := vp_in_nI (show i < 32 by omega) (by decide)
        refine va_iald hx hb hK T.1 7 7 rfl rfl h_46 dX3_lowFloor_46 ?_
        refine W.eq (g2 := F0 m 47 ls [.int (S i 6)]) (by rw [nI_clamp (show i < 2 ^ 31 by omega)] <;> rfl) ?_
        refine lv_goto (tgt := 51) hx hb dX3_lowFloor_47 (by decide) ?_
        refine lv_istore_n (lv' := [(2, .int (S i 6)), (0, .ref o), (1, .int x1), (3, .int (nI i))]) hx hb dX3_lowFloor_51 rfl hl (by decide) rfl (fun ls hl => ?_)
        refine lv_iinc (v := nI (i + 1)) (lv' := [(3, .int (nI (i + 1))), (2, .int (S i 6)), (0, .ref o), (1, .int x1)]) hx hb dX3_lowFloor_52 hl (k := 3) rfl (nI_1 i) (by decide) rfl (fun ls hl => ?_)
        refine lv_goto (tgt := 9) hx hb dX3_lowFloor_55 (by decide) ?_
        rw [show sm_lowFloor_loop S B x1 (k + 1) i x = sm_lowFloor_loop S B x1 k (i + 1) (S i 6) from by rw [sm_lowFloor_loop]; simp only [if_neg c_28, if_neg c_38]]
        exact ih (i + 1) _ (by omega) _ _ _ T (lv_sub hl [2, 3, 1, 0] rfl)
/-- lowFloor, its picture -/
def sm_lowFloor (S : Nat → Nat → Int32) (B : Nat → Int32) (n : Nat) (x1 : Int32) : Int32 := sm_lowFloor_loop S B x1 n 0 (S x1.toNatClampNeg 6)
set_option maxHeartbeats 4000000 in
set_option maxRecDepth 100000 in
theorem c_M_lowFloor {x1 : Int32} (h1 : vp_in x1 32) (hG : hg_n G n) : MI l D (t0 :: md_tys cm) yX3_lowFloor wsX3_lowFloor { frames := 0, cells := 0, slots := 0, locals := 0 } [.ref o, .int x1] (md_W o am cm G S B) (sm_lowFloor S B n x1) (md_W o am cm G S B) := by
  refine MI.start (cc := cX3_lowFloor) (maxL := 4) (by decide) rfl (Nat.le_of_ble_eq_true rfl) (fun p e s m args below meth c A ls C T hl => ?_)
  have hx := C.1.1
  have hb := C.1.2.1
  have hml := C.1.2.2.1
  have hown : s.vm.findClass RX3 = some m.cls := C.1.2.2.2.1
  have hts := C.1.2.2.2.2
  have hK := C.2.2.2.1
  have hinM : ∀ w ∈ wsX30, w ∈ wsX3_lowFloor := fun w h => List.mem_cons_of_mem _ (inX3 w h)
  have hn32 := hG.1
  have hl : lv_has ls 4 [(0, .ref o), (1, .int x1)] := hl
  refine lv_aload_n hx hb dX3_lowFloor_0 rfl (lv_at hl 0 rfl) ?_
  refine va_get (D := D) (ci := 2) (v := .ref (am 6)) (C := RX3) (T := TX3) (N := 19) hx hb hts hinM hown hK T.1 0 rfl rfl 9 (by decide) (hts _ (List.mem_cons_of_mem _ k3_f29)) (fun _ h9 => h9) rfl dX3_lowFloor_1 ?_
  refine lv_iload_n hx hb dX3_lowFloor_4 rfl (lv_at hl 1 rfl) ?_
  have h_5 : vp_in x1 32 := h1
  refine va_iald hx hb hK T.1 7 7 rfl rfl h_5 dX3_lowFloor_5 ?_
  refine W.eq (g2 := F0 m 6 ls [.int (S x1.toNatClampNeg 6)]) rfl ?_
  refine lv_istore_n (lv' := [(2, .int (S x1.toNatClampNeg 6)), (0, .ref o), (1, .int x1)]) hx hb dX3_lowFloor_6 rfl hl (by decide) rfl (fun ls hl => ?_)
  refine lv_iconst (v := 0) hx hb dX3_lowFloor_7 (by decide) ?_
  refine lv_istore_n (lv' := [(3, .int 0), (2, .int (S x1.toNatClampNeg 6)), (0, .ref o), (1, .int x1)]) hx hb dX3_lowFloor_8 rfl hl (by decide) rfl (fun ls hl => ?_)
  rw [show sm_lowFloor S B n x1 = sm_lowFloor_loop S B x1 n 0 (S x1.toNatClampNeg 6) from by rfl]
  exact lp_m_lowFloor h1 hG C n 0 _ (by omega) _ _ _ T (lv_sub hl [2, 3, 1, 0] rfl)
/-- highFloor: its loop, by what is left to do -/
def sm_highFloor_loop (S : Nat → Nat → Int32) (B : Nat → Int32) (x1 : Int32) : Nat → Nat → Int32 → Int32
  | 0, _, x => x
  | k + 1, i, x => if (B (((32 * x1) + (nI i)).toNatClampNeg)) = 0 then (sm_highFloor_loop S B x1 k (i + 1) x) else (if (S i 6) ≤ x then (sm_highFloor_loop S B x1 k (i + 1) x) else (sm_highFloor_loop S B x1 k (i + 1) (S i 6)))
set_option maxHeartbeats 4000000 in
set_option maxRecDepth 100000 in
theorem lp_m_highFloor {p : Program} {e : Env} {s : State} {m : MethodId} {args : Array Value} {below : List Frame} {meth : Method} {c : Code} {A : Nat → Prop} {x1 : Int32} (h1 : vp_in x1 32) (hG : hg_n G n) (C : hw_C p s m args meth c cX3_highFloor (some .int) 4 wsX3_highFloor yX3_highFloor.cls D (t0 :: md_tys cm) A) :
    ∀ (k i : Nat) (x : Int32), i + k = n → ∀ (ls : Array Slot) (H : Heap) (locs : List Loc), hw_T D A s.heap (md_W o am cm G S B) H locs → lv_has ls 4 [(0, .ref o), (1, .int x1), (2, .int x), (3, .int (nI i))] → W p l e { frames := 0, cells := 0, slots := 0, locals := 0 } s m args below meth c H locs 0 0 (MQ below (va_Qi (fun (r' : Int32) (_ : Unit) => r' = sm_highFloor_loop S B x1 k i x) (fun _ t => va_P D vwCl (md_W o am cm G S B) t.heap) A) args s 0 0 A) (F0 m 9 ls []) := by
  have hx := C.1.1
  have hb := C.1.2.1
  have hml := C.1.2.2.1
  have hown : s.vm.findClass RX3 = some m.cls := C.1.2.2.2.1
  have hts := C.1.2.2.2.2
  have hK := C.2.2.2.1
  have hinM : ∀ w ∈ wsX30, w ∈ wsX3_highFloor := fun w h => List.mem_cons_of_mem _ (inX3 w h)
  have hn32 := hG.1
  intro k
  induction k with
  | zero =>
    intro i x hik ls H locs T hl
    refine lv_iload_n hx hb dX3_highFloor_9 rfl (lv_at hl 3 rfl) ?_
    refine lv_aload_n hx hb dX3_highFloor_10 rfl (lv_at hl 0 rfl) ?_
    refine va_get (D := D) (ci := 2) (v := .int (G 0)) (C := RX3) (T := TX3) (N := 19) hx hb hts hinM hown hK T.1 0 rfl rfl 1 (by decide) (hts _ (List.mem_cons_of_mem _ k3_f57)) (fun _ h9 => h9) rfl dX3_highFloor_11 ?_
    refine lv_icmp_ge (tgt := 58) hx hb dX3_highFloor_14 (by decide) (fun c_14 => ?_) (fun c_14 => absurd (show G 0 ≤ nI i by rw [hG.2]; exact nI_le (show n ≤ i by omega) (by omega)) c_14)
    refine lv_iload_n hx hb dX3_highFloor_58 rfl (lv_at hl 2 rfl) ?_
    have e9 : sm_highFloor_loop S B x1 0 i x = x := by rw [sm_highFloor_loop]
    exact hw_iret C T rfl e9.symm rfl dX3_highFloor_59
  | succ k ih =>
    intro i x hik ls H locs T hl
    refine lv_iload_n hx hb dX3_highFloor_9 rfl (lv_at hl 3 rfl) ?_
    refine lv_aload_n hx hb dX3_highFloor_10 rfl (lv_at hl 0 rfl) ?_
    refine va_get (D := D) (ci := 2) (v := .int (G 0)) (C := RX3) (T := TX3) (N := 19) hx hb hts hinM hown hK T.1 0 rfl rfl 1 (by decide) (hts _ (List.mem_cons_of_mem _ k3_f57)) (fun _ h9 => h9) rfl dX3_highFloor_11 ?_
    refine lv_icmp_ge (tgt := 58) hx hb dX3_highFloor_14 (by decide) (fun c_14 => absurd c_14 (show ¬ G 0 ≤ nI i by rw [hG.2]; exact nI_ge (show i < n by omega) (by omega))) (fun c_14 => ?_)
    refine lv_aload_n hx hb dX3_highFloor_17 rfl (lv_at hl 0 rfl) ?_
    refine va_get (D := D) (ci := 2) (v := .ref (am 5)) (C := RX3) (T := TX3) (N := 19) hx hb hts hinM hown hK T.1 0 rfl rfl 7 (by decide) (hts _ (List.mem_cons_of_mem _ k3_f25)) (fun _ h9 => h9) rfl dX3_highFloor_18 ?_
    refine lv_bipush (v := 32) hx hb dX3_highFloor_21 (by decide) ?_
    refine lv_iload_n hx hb dX3_highFloor_23 rfl (lv_at hl 1 rfl) ?_
    refine lv_imul hx hb dX3_highFloor_24 ?_
    refine lv_iload_n hx hb dX3_highFloor_25 rfl (lv_at hl 3 rfl) ?_
    refine lv_iadd hx hb dX3_highFloor_26 ?_
    have h_27 : vp_in ((32 * x1) + (nI i)) 1024 := (mb_in h1 (vp_in_nI (show i < 32 by omega) (by decide)))
    refine va_zald hx hb hK T.1 6 6 rfl rfl h_27 dX3_highFloor_27 ?_
    refine W.eq (g2 := F0 m 28 ls [.int (B (((32 * x1) + (nI i)).toNatClampNeg))]) rfl ?_
    refine lv_if_eq (tgt := 50) hx hb dX3_highFloor_28 (by decide) (fun c_28 => ?_) (fun c_28 => ?_)
    · skip
      refine lv_iload_n hx hb dX3_highFloor_50 rfl (lv_at hl 2 rfl) ?_
      refine lv_istore_n (lv' := [(2, .int x), (0, .ref o), (1, .int x1), (3, .int (nI i))]) hx hb dX3_highFloor_51 rfl hl (by decide) rfl (fun ls hl => ?_)
      refine lv_iinc (v := nI (i + 1)) (lv' := [(3, .int (nI (i + 1))), (2, .int x), (0, .ref o), (1, .int x1)]) hx hb dX3_highFloor_52 hl (k := 3) rfl (nI_1 i) (by decide) rfl (fun ls hl => ?_)
      refine lv_goto (tgt := 9) hx hb dX3_highFloor_55 (by decide) ?_
      rw [show sm_highFloor_loop S B x1 (k + 1) i x = sm_highFloor_loop S B x1 k (i + 1) x from by rw [sm_highFloor_loop]; simp only [if_pos c_28]]
      exact ih (i + 1) _ (by omega) _ _ _ T (lv_sub hl [2, 3, 1, 0] rfl)
    · skip
      refine lv_aload_n hx hb dX3_highFloor_31 rfl (lv_at hl 0 rfl) ?_
      refine va_get (D := D) (ci := 2) (v := .ref (am 6)) (C := RX3) (T := TX3) (N := 19) hx hb hts hinM hown hK T.1 0 rfl rfl 9 (by decide) (hts _ (List.mem_cons_of_mem _ k3_f29)) (fun _ h9 => h9) rfl dX3_highFloor_32 ?_
      refine lv_iload_n hx hb dX3_highFloor_35 rfl (lv_at hl 3 rfl) ?_
      have h_36 : vp_in (nI i) 32 := vp_in_nI (show i < 32 by omega) (by decide)
      refine va_iald hx hb hK T.1 7 7 rfl rfl h_36 dX3_highFloor_36 ?_
      refine W.eq (g2 := F0 m 37 ls [.int (S i 6)]) (by rw [nI_clamp (show i < 2 ^ 31 by omega)] <;> rfl) ?_
      refine lv_iload_n hx hb dX3_highFloor_37 rfl (lv_at hl 2 rfl) ?_
      refine lv_icmp_le (tgt := 50) hx hb dX3_highFloor_38 (by decide) (fun c_38 => ?_) (fun c_38 => ?_)
      · skip
        refine lv_iload_n hx hb dX3_highFloor_50 rfl (lv_at hl 2 rfl) ?_
        refine lv_istore_n (lv' := [(2, .int x), (0, .ref o), (1, .int x1), (3, .int (nI i))]) hx hb dX3_highFloor_51 rfl hl (by decide) rfl (fun ls hl => ?_)
        refine lv_iinc (v := nI (i + 1)) (lv' := [(3, .int (nI (i + 1))), (2, .int x), (0, .ref o), (1, .int x1)]) hx hb dX3_highFloor_52 hl (k := 3) rfl (nI_1 i) (by decide) rfl (fun ls hl => ?_)
        refine lv_goto (tgt := 9) hx hb dX3_highFloor_55 (by decide) ?_
        rw [show sm_highFloor_loop S B x1 (k + 1) i x = sm_highFloor_loop S B x1 k (i + 1) x from by rw [sm_highFloor_loop]; simp only [if_neg c_28, if_pos c_38]]
        exact ih (i + 1) _ (by omega) _ _ _ T (lv_sub hl [2, 3, 1, 0] rfl)
      · skip
        refine lv_aload_n hx hb dX3_highFloor_41 rfl (lv_at hl 0 rfl) ?_
        refine va_get (D := D) (ci := 2) (v := .ref (am 6)) (C := RX3) (T := TX3) (N := 19) hx hb hts hinM hown hK T.1 0 rfl rfl 9 (by decide) (hts _ (List.mem_cons_of_mem _ k3_f29)) (fun _ h9 => h9) rfl dX3_highFloor_42 ?_
        refine lv_iload_n hx hb dX3_highFloor_45 rfl (lv_at hl 3 rfl) ?_
        have h_46 : vp_in (nI i) 32 := vp_in_nI (show i < 32 by omega) (by decide)
        refine va_iald hx hb hK T.1 7 7 rfl rfl h_46 dX3_highFloor_46 ?_
        refine W.eq (g2 := F0 m 47 ls [.int (S i 6)]) (by rw [nI_clamp (show i < 2 ^ 31 by omega)] <;> rfl) ?_
        refine lv_goto (tgt := 51) hx hb dX3_highFloor_47 (by decide) ?_
        refine lv_istore_n (lv' := [(2, .int (S i 6)), (0, .ref o), (1, .int x1), (3, .int (nI i))]) hx hb dX3_highFloor_51 rfl hl (by decide) rfl (fun ls hl => ?_)
        refine lv_iinc (v := nI (i + 1)) (lv' := [(3, .int (nI (i + 1))), (2, .int (S i 6)), (0, .ref o), (1, .int x1)]) hx hb dX3_highFloor_52 hl (k := 3) rfl (nI_1 i) (by decide) rfl (fun ls hl => ?_)
        refine lv_goto (tgt := 9) hx hb dX3_highFloor_55 (by decide) ?_
        rw [show sm_highFloor_loop S B x1 (k + 1) i x = sm_highFloor_loop S B x1 k (i + 1) (S i 6) from by rw [sm_highFloor_loop]; simp only [if_neg c_28, if_neg c_38]]
        exact ih (i + 1) _ (by omega) _ _ _ T (lv_sub hl [2, 3, 1, 0] rfl)
/-- highFloor, its picture -/
def sm_highFloor (S : Nat → Nat → Int32) (B : Nat → Int32) (n : Nat) (x1 : Int32) : Int32 := sm_highFloor_loop S B x1 n 0 (S x1.toNatClampNeg 6)
set_option maxHeartbeats 4000000 in
set_option maxRecDepth 100000 in
theorem c_M_highFloor {x1 : Int32} (h1 : vp_in x1 32) (hG : hg_n G n) : MI l D (t0 :: md_tys cm) yX3_highFloor wsX3_highFloor { frames := 0, cells := 0, slots := 0, locals := 0 } [.ref o, .int x1] (md_W o am cm G S B) (sm_highFloor S B n x1) (md_W o am cm G S B) := by
  refine MI.start (cc := cX3_highFloor) (maxL := 4) (by decide) rfl (Nat.le_of_ble_eq_true rfl) (fun p e s m args below meth c A ls C T hl => ?_)
  have hx := C.1.1
  have hb := C.1.2.1
  have hml := C.1.2.2.1
  have hown : s.vm.findClass RX3 = some m.cls := C.1.2.2.2.1
  have hts := C.1.2.2.2.2
  have hK := C.2.2.2.1
  have hinM : ∀ w ∈ wsX30, w ∈ wsX3_highFloor := fun w h => List.mem_cons_of_mem _ (inX3 w h)
  have hn32 := hG.1
  have hl : lv_has ls 4 [(0, .ref o), (1, .int x1)] := hl
  refine lv_aload_n hx hb dX3_highFloor_0 rfl (lv_at hl 0 rfl) ?_
  refine va_get (D := D) (ci := 2) (v := .ref (am 6)) (C := RX3) (T := TX3) (N := 19) hx hb hts hinM hown hK T.1 0 rfl rfl 9 (by decide) (hts _ (List.mem_cons_of_mem _ k3_f29)) (fun _ h9 => h9) rfl dX3_highFloor_1 ?_
  refine lv_iload_n hx hb dX3_highFloor_4 rfl (lv_at hl 1 rfl) ?_
  have h_5 : vp_in x1 32 := h1
  refine va_iald hx hb hK T.1 7 7 rfl rfl h_5 dX3_highFloor_5 ?_
  refine W.eq (g2 := F0 m 6 ls [.int (S x1.toNatClampNeg 6)]) rfl ?_
  refine lv_istore_n (lv' := [(2, .int (S x1.toNatClampNeg 6)), (0, .ref o), (1, .int x1)]) hx hb dX3_highFloor_6 rfl hl (by decide) rfl (fun ls hl => ?_)
  refine lv_iconst (v := 0) hx hb dX3_highFloor_7 (by decide) ?_
  refine lv_istore_n (lv' := [(3, .int 0), (2, .int (S x1.toNatClampNeg 6)), (0, .ref o), (1, .int x1)]) hx hb dX3_highFloor_8 rfl hl (by decide) rfl (fun ls hl => ?_)
  rw [show sm_highFloor S B n x1 = sm_highFloor_loop S B x1 n 0 (S x1.toNatClampNeg 6) from by rfl]
  exact lp_m_highFloor h1 hG C n 0 _ (by omega) _ _ _ T (lv_sub hl [2, 3, 1, 0] rfl)
/-- lowCeiling: its loop, by what is left to do -/
def sm_lowCeiling_loop (S : Nat → Nat → Int32) (B : Nat → Int32) (x1 : Int32) : Nat → Nat → Int32 → Int32
  | 0, _, x => if x = 100000 then (S x1.toNatClampNeg 7) else x
  | k + 1, i, x => if (B (((32 * x1) + (nI i)).toNatClampNeg)) = 0 then (sm_lowCeiling_loop S B x1 k (i + 1) x) else (if x ≤ (S i 7) then (sm_lowCeiling_loop S B x1 k (i + 1) x) else (sm_lowCeiling_loop S B x1 k (i + 1) (S i 7)))
set_option maxHeartbeats 4000000 in
set_option maxRecDepth 100000 in
theorem lp_m_lowCeiling {p : Program} {e : Env} {s : State} {m : MethodId} {args : Array Value} {below : List Frame} {meth : Method} {c : Code} {A : Nat → Prop} {x1 : Int32} (h1 : vp_in x1 32) (hG : hg_n G n) (C : hw_C p s m args meth c cX3_lowCeiling (some .int) 4 wsX3_lowCeiling yX3_lowCeiling.cls D (t0 :: md_tys cm) A) :
    ∀ (k i : Nat) (x : Int32), i + k = n → ∀ (ls : Array Slot) (H : Heap) (locs : List Loc), hw_T D A s.heap (md_W o am cm G S B) H locs → lv_has ls 4 [(0, .ref o), (1, .int x1), (2, .int x), (3, .int (nI i))] → W p l e { frames := 0, cells := 0, slots := 0, locals := 0 } s m args below meth c H locs 0 0 (MQ below (va_Qi (fun (r' : Int32) (_ : Unit) => r' = sm_lowCeiling_loop S B x1 k i x) (fun _ t => va_P D vwCl (md_W o am cm G S B) t.heap) A) args s 0 0 A) (F0 m 5 ls []) := by
  have hx := C.1.1
  have hb := C.1.2.1
  have hml := C.1.2.2.1
  have hown : s.vm.findClass RX3 = some m.cls := C.1.2.2.2.1
  have hts := C.1.2.2.2.2
  have hK := C.2.2.2.1
  have hinM : ∀ w ∈ wsX30, w ∈ wsX3_lowCeiling := fun w h => List.mem_cons_of_mem _ (inX3 w h)
  have hn32 := hG.1
  intro k
  induction k with
  | zero =>
    intro i x hik ls H locs T hl
    refine lv_iload_n hx hb dX3_lowCeiling_5 rfl (lv_at hl 3 rfl) ?_
    refine lv_aload_n hx hb dX3_lowCeiling_6 rfl (lv_at hl 0 rfl) ?_
    refine va_get (D := D) (ci := 2) (v := .int (G 0)) (C := RX3) (T := TX3) (N := 19) hx hb hts hinM hown hK T.1 0 rfl rfl 1 (by decide) (hts _ (List.mem_cons_of_mem _ k3_f57)) (fun _ h9 => h9) rfl dX3_lowCeiling_7 ?_
    refine lv_icmp_ge (tgt := 54) hx hb dX3_lowCeiling_10 (by decide) (fun c_10 => ?_) (fun c_10 => absurd (show G 0 ≤ nI i by rw [hG.2]; exact nI_le (show n ≤ i by omega) (by omega)) c_10)
    refine lv_iload_n hx hb dX3_lowCeiling_54 rfl (lv_at hl 2 rfl) ?_
    refine lv_ldc (v := 100000) hx hb hown (hts (.constant RX3 76 100000) (List.mem_cons_of_mem _ k3_k76)) dX3_lowCeiling_55 ?_
    refine lv_icmp_ne (tgt := 69) hx hb dX3_lowCeiling_57 (by decide) (fun c_57 => ?_) (fun c_57 => ?_)
    · skip
      refine lv_iload_n hx hb dX3_lowCeiling_69 rfl (lv_at hl 2 rfl) ?_
      have e9 : sm_lowCeiling_loop S B x1 0 i x = x := by rw [sm_lowCeiling_loop]; simp only [if_neg c_57]
      exact hw_iret C T rfl e9.symm rfl dX3_lowCeiling_70
    · skip
      refine lv_aload_n hx hb dX3_lowCeiling_60 rfl (lv_at hl 0 rfl) ?_
      refine va_get (D := D) (ci := 2) (v := .ref (am 7)) (C := RX3) (T := TX3) (N := 19) hx hb hts hinM hown hK T.1 0 rfl rfl 10 (by decide) (hts _ (List.mem_cons_of_mem _ k3_f32)) (fun _ h9 => h9) rfl dX3_lowCeiling_61 ?_
      refine lv_iload_n hx hb dX3_lowCeiling_64 rfl (lv_at hl 1 rfl) ?_
      have h_65 : vp_in x1 32 := h1
      refine va_iald hx hb hK T.1 8 8 rfl rfl h_65 dX3_lowCeiling_65 ?_
      refine W.eq (g2 := F0 m 66 ls [.int (S x1.toNatClampNeg 7)]) rfl ?_
      refine lv_goto (tgt := 70) hx hb dX3_lowCeiling_66 (by decide) ?_
      have e9 : sm_lowCeiling_loop S B x1 0 i x = S x1.toNatClampNeg 7 := by rw [sm_lowCeiling_loop]; simp only [if_pos c_57]
      exact hw_iret C T rfl e9.symm rfl dX3_lowCeiling_70
  | succ k ih =>
    intro i x hik ls H locs T hl
    refine lv_iload_n hx hb dX3_lowCeiling_5 rfl (lv_at hl 3 rfl) ?_
    refine lv_aload_n hx hb dX3_lowCeiling_6 rfl (lv_at hl 0 rfl) ?_
    refine va_get (D := D) (ci := 2) (v := .int (G 0)) (C := RX3) (T := TX3) (N := 19) hx hb hts hinM hown hK T.1 0 rfl rfl 1 (by decide) (hts _ (List.mem_cons_of_mem _ k3_f57)) (fun _ h9 => h9) rfl dX3_lowCeiling_7 ?_
    refine lv_icmp_ge (tgt := 54) hx hb dX3_lowCeiling_10 (by decide) (fun c_10 => absurd c_10 (show ¬ G 0 ≤ nI i by rw [hG.2]; exact nI_ge (show i < n by omega) (by omega))) (fun c_10 => ?_)
    refine lv_aload_n hx hb dX3_lowCeiling_13 rfl (lv_at hl 0 rfl) ?_
    refine va_get (D := D) (ci := 2) (v := .ref (am 5)) (C := RX3) (T := TX3) (N := 19) hx hb hts hinM hown hK T.1 0 rfl rfl 7 (by decide) (hts _ (List.mem_cons_of_mem _ k3_f25)) (fun _ h9 => h9) rfl dX3_lowCeiling_14 ?_
    refine lv_bipush (v := 32) hx hb dX3_lowCeiling_17 (by decide) ?_
    refine lv_iload_n hx hb dX3_lowCeiling_19 rfl (lv_at hl 1 rfl) ?_
    refine lv_imul hx hb dX3_lowCeiling_20 ?_
    refine lv_iload_n hx hb dX3_lowCeiling_21 rfl (lv_at hl 3 rfl) ?_
    refine lv_iadd hx hb dX3_lowCeiling_22 ?_
    have h_23 : vp_in ((32 * x1) + (nI i)) 1024 := (mb_in h1 (vp_in_nI (show i < 32 by omega) (by decide)))
    refine va_zald hx hb hK T.1 6 6 rfl rfl h_23 dX3_lowCeiling_23 ?_
    refine W.eq (g2 := F0 m 24 ls [.int (B (((32 * x1) + (nI i)).toNatClampNeg))]) rfl ?_
    refine lv_if_eq (tgt := 46) hx hb dX3_lowCeiling_24 (by decide) (fun c_24 => ?_) (fun c_24 => ?_)
    · skip
      refine lv_iload_n hx hb dX3_lowCeiling_46 rfl (lv_at hl 2 rfl) ?_
      refine lv_istore_n (lv' := [(2, .int x), (0, .ref o), (1, .int x1), (3, .int (nI i))]) hx hb dX3_lowCeiling_47 rfl hl (by decide) rfl (fun ls hl => ?_)
      refine lv_iinc (v := nI (i + 1)) (lv' := [(3, .int (nI (i + 1))), (2, .int x), (0, .ref o), (1, .int x1)]) hx hb dX3_lowCeiling_48 hl (k := 3) rfl (nI_1 i) (by decide) rfl (fun ls hl => ?_)
      refine lv_goto (tgt := 5) hx hb dX3_lowCeiling_51 (by decide) ?_
      rw [show sm_lowCeiling_loop S B x1 (k + 1) i x = sm_lowCeiling_loop S B x1 k (i + 1) x from by rw [sm_lowCeiling_loop]; simp only [if_pos c_24]]
      exact ih (i + 1) _ (by omega) _ _ _ T (lv_sub hl [2, 3, 1, 0] rfl)
    · skip
      refine lv_aload_n hx hb dX3_lowCeiling_27 rfl (lv_at hl 0 rfl) ?_
      refine va_get (D := D) (ci := 2) (v := .ref (am 7)) (C := RX3) (T := TX3) (N := 19) hx hb hts hinM hown hK T.1 0 rfl rfl 10 (by decide) (hts _ (List.mem_cons_of_mem _ k3_f32)) (fun _ h9 => h9) rfl dX3_lowCeiling_28 ?_
      refine lv_iload_n hx hb dX3_lowCeiling_31 rfl (lv_at hl 3 rfl) ?_
      have h_32 : vp_in (nI i) 32 := vp_in_nI (show i < 32 by omega) (by decide)
      refine va_iald hx hb hK T.1 8 8 rfl rfl h_32 dX3_lowCeiling_32 ?_
      refine W.eq (g2 := F0 m 33 ls [.int (S i 7)]) (by rw [nI_clamp (show i < 2 ^ 31 by omega)] <;> rfl) ?_
      refine lv_iload_n hx hb dX3_lowCeiling_33 rfl (lv_at hl 2 rfl) ?_
      refine lv_icmp_ge (tgt := 46) hx hb dX3_lowCeiling_34 (by decide) (fun c_34 => ?_) (fun c_34 => ?_)
      · skip
        refine lv_iload_n hx hb dX3_lowCeiling_46 rfl (lv_at hl 2 rfl) ?_
        refine lv_istore_n (lv' := [(2, .int x), (0, .ref o), (1, .int x1), (3, .int (nI i))]) hx hb dX3_lowCeiling_47 rfl hl (by decide) rfl (fun ls hl => ?_)
        refine lv_iinc (v := nI (i + 1)) (lv' := [(3, .int (nI (i + 1))), (2, .int x), (0, .ref o), (1, .int x1)]) hx hb dX3_lowCeiling_48 hl (k := 3) rfl (nI_1 i) (by decide) rfl (fun ls hl => ?_)
        refine lv_goto (tgt := 5) hx hb dX3_lowCeiling_51 (by decide) ?_
        rw [show sm_lowCeiling_loop S B x1 (k + 1) i x = sm_lowCeiling_loop S B x1 k (i + 1) x from by rw [sm_lowCeiling_loop]; simp only [if_neg c_24, if_pos c_34]]
        exact ih (i + 1) _ (by omega) _ _ _ T (lv_sub hl [2, 3, 1, 0] rfl)
      · skip
        refine lv_aload_n hx hb dX3_lowCeiling_37 rfl (lv_at hl 0 rfl) ?_
        refine va_get (D := D) (ci := 2) (v := .ref (am 7)) (C := RX3) (T := TX3) (N := 19) hx hb hts hinM hown hK T.1 0 rfl rfl 10 (by decide) (hts _ (List.mem_cons_of_mem _ k3_f32)) (fun _ h9 => h9) rfl dX3_lowCeiling_38 ?_
        refine lv_iload_n hx hb dX3_lowCeiling_41 rfl (lv_at hl 3 rfl) ?_
        have h_42 : vp_in (nI i) 32 := vp_in_nI (show i < 32 by omega) (by decide)
        refine va_iald hx hb hK T.1 8 8 rfl rfl h_42 dX3_lowCeiling_42 ?_
        refine W.eq (g2 := F0 m 43 ls [.int (S i 7)]) (by rw [nI_clamp (show i < 2 ^ 31 by omega)] <;> rfl) ?_
        refine lv_goto (tgt := 47) hx hb dX3_lowCeiling_43 (by decide) ?_
        refine lv_istore_n (lv' := [(2, .int (S i 7)), (0, .ref o), (1, .int x1), (3, .int (nI i))]) hx hb dX3_lowCeiling_47 rfl hl (by decide) rfl (fun ls hl => ?_)
        refine lv_iinc (v := nI (i + 1)) (lv' := [(3, .int (nI (i + 1))), (2, .int (S i 7)), (0, .ref o), (1, .int x1)]) hx hb dX3_lowCeiling_48 hl (k := 3) rfl (nI_1 i) (by decide) rfl (fun ls hl => ?_)
        refine lv_goto (tgt := 5) hx hb dX3_lowCeiling_51 (by decide) ?_
        rw [show sm_lowCeiling_loop S B x1 (k + 1) i x = sm_lowCeiling_loop S B x1 k (i + 1) (S i 7) from by rw [sm_lowCeiling_loop]; simp only [if_neg c_24, if_neg c_34]]
        exact ih (i + 1) _ (by omega) _ _ _ T (lv_sub hl [2, 3, 1, 0] rfl)
/-- lowCeiling, its picture -/
def sm_lowCeiling (S : Nat → Nat → Int32) (B : Nat → Int32) (n : Nat) (x1 : Int32) : Int32 := sm_lowCeiling_loop S B x1 n 0 100000
set_option maxHeartbeats 4000000 in
set_option maxRecDepth 100000 in
theorem c_M_lowCeiling {x1 : Int32} (h1 : vp_in x1 32) (hG : hg_n G n) : MI l D (t0 :: md_tys cm) yX3_lowCeiling wsX3_lowCeiling { frames := 0, cells := 0, slots := 0, locals := 0 } [.ref o, .int x1] (md_W o am cm G S B) (sm_lowCeiling S B n x1) (md_W o am cm G S B) := by
  refine MI.start (cc := cX3_lowCeiling) (maxL := 4) (by decide) rfl (Nat.le_of_ble_eq_true rfl) (fun p e s m args below meth c A ls C T hl => ?_)
  have hx := C.1.1
  have hb := C.1.2.1
  have hml := C.1.2.2.1
  have hown : s.vm.findClass RX3 = some m.cls := C.1.2.2.2.1
  have hts := C.1.2.2.2.2
  have hK := C.2.2.2.1
  have hinM : ∀ w ∈ wsX30, w ∈ wsX3_lowCeiling := fun w h => List.mem_cons_of_mem _ (inX3 w h)
  have hn32 := hG.1
  have hl : lv_has ls 4 [(0, .ref o), (1, .int x1)] := hl
  refine lv_ldc (v := 100000) hx hb hown (hts (.constant RX3 76 100000) (List.mem_cons_of_mem _ k3_k76)) dX3_lowCeiling_0 ?_
  refine lv_istore_n (lv' := [(2, .int 100000), (0, .ref o), (1, .int x1)]) hx hb dX3_lowCeiling_2 rfl hl (by decide) rfl (fun ls hl => ?_)
  refine lv_iconst (v := 0) hx hb dX3_lowCeiling_3 (by decide) ?_
  refine lv_istore_n (lv' := [(3, .int 0), (2, .int 100000), (0, .ref o), (1, .int x1)]) hx hb dX3_lowCeiling_4 rfl hl (by decide) rfl (fun ls hl => ?_)
  rw [show sm_lowCeiling S B n x1 = sm_lowCeiling_loop S B x1 n 0 100000 from by rfl]
  exact lp_m_lowCeiling h1 hG C n 0 _ (by omega) _ _ _ T (lv_sub hl [2, 3, 1, 0] rfl)
/-- many: its loop, by what is left to do -/
def sm_many_loop (S : Nat → Nat → Int32) : Nat → Nat → Int32 → Int32
  | 0, _, x => x
  | k + 1, i, x => if (S i 8) < 0 then (sm_many_loop S k (i + 1) (x + 0)) else (sm_many_loop S k (i + 1) (x + 1))
set_option maxHeartbeats 4000000 in
set_option maxRecDepth 100000 in
theorem lp_m_many {p : Program} {e : Env} {s : State} {m : MethodId} {args : Array Value} {below : List Frame} {meth : Method} {c : Code} {A : Nat → Prop}  (hG : hg_n G n) (C : hw_C p s m args meth c cX3_many (some .int) 3 wsX3_many yX3_many.cls D (t0 :: md_tys cm) A) :
    ∀ (k i : Nat) (x : Int32), i + k = n → ∀ (ls : Array Slot) (H : Heap) (locs : List Loc), hw_T D A s.heap (md_W o am cm G S B) H locs → lv_has ls 3 [(0, .ref o), (1, .int x), (2, .int (nI i))] → W p l e { frames := 0, cells := 0, slots := 0, locals := 0 } s m args below meth c H locs 0 0 (MQ below (va_Qi (fun (r' : Int32) (_ : Unit) => r' = sm_many_loop S k i x) (fun _ t => va_P D vwCl (md_W o am cm G S B) t.heap) A) args s 0 0 A) (F0 m 4 ls []) := by
  have hx := C.1.1
  have hb := C.1.2.1
  have hml := C.1.2.2.1
  have hown : s.vm.findClass RX3 = some m.cls := C.1.2.2.2.1
  have hts := C.1.2.2.2.2
  have hK := C.2.2.2.1
  have hinM : ∀ w ∈ wsX30, w ∈ wsX3_many := fun w h => List.mem_cons_of_mem _ (inX3 w h)
  have hn32 := hG.1
  intro k
  induction k with
  | zero =>
    intro i x hik ls H locs T hl
    refine lv_iload_n hx hb dX3_many_4 rfl (lv_at hl 2 rfl) ?_
    refine lv_aload_n hx hb dX3_many_5 rfl (lv_at hl 0 rfl) ?_
    refine va_get (D := D) (ci := 2) (v := .int (G 0)) (C := RX3) (T := TX3) (N := 19) hx hb hts hinM hown hK T.1 0 rfl rfl 1 (by decide) (hts _ (List.mem_cons_of_mem _ k3_f57)) (fun _ h9 => h9) rfl dX3_many_6 ?_
    refine lv_icmp_ge (tgt := 35) hx hb dX3_many_9 (by decide) (fun c_9 => ?_) (fun c_9 => absurd (show G 0 ≤ nI i by rw [hG.2]; exact nI_le (show n ≤ i by omega) (by omega)) c_9)
    refine lv_iload_n hx hb dX3_many_35 rfl (lv_at hl 1 rfl) ?_
    have e9 : sm_many_loop S 0 i x = x := by rw [sm_many_loop]
    exact hw_iret C T rfl e9.symm rfl dX3_many_36
  | succ k ih =>
    intro i x hik ls H locs T hl
    refine lv_iload_n hx hb dX3_many_4 rfl (lv_at hl 2 rfl) ?_
    refine lv_aload_n hx hb dX3_many_5 rfl (lv_at hl 0 rfl) ?_
    refine va_get (D := D) (ci := 2) (v := .int (G 0)) (C := RX3) (T := TX3) (N := 19) hx hb hts hinM hown hK T.1 0 rfl rfl 1 (by decide) (hts _ (List.mem_cons_of_mem _ k3_f57)) (fun _ h9 => h9) rfl dX3_many_6 ?_
    refine lv_icmp_ge (tgt := 35) hx hb dX3_many_9 (by decide) (fun c_9 => absurd c_9 (show ¬ G 0 ≤ nI i by rw [hG.2]; exact nI_ge (show i < n by omega) (by omega))) (fun c_9 => ?_)
    refine lv_iload_n hx hb dX3_many_12 rfl (lv_at hl 1 rfl) ?_
    refine lv_aload_n hx hb dX3_many_13 rfl (lv_at hl 0 rfl) ?_
    refine va_get (D := D) (ci := 2) (v := .ref (am 8)) (C := RX3) (T := TX3) (N := 19) hx hb hts hinM hown hK T.1 0 rfl rfl 11 (by decide) (hts _ (List.mem_cons_of_mem _ k3_f35)) (fun _ h9 => h9) rfl dX3_many_14 ?_
    refine lv_iload_n hx hb dX3_many_17 rfl (lv_at hl 2 rfl) ?_
    have h_18 : vp_in (nI i) 32 := vp_in_nI (show i < 32 by omega) (by decide)
    refine va_iald hx hb hK T.1 9 9 rfl rfl h_18 dX3_many_18 ?_
    refine W.eq (g2 := F0 m 19 ls [.int (S i 8), .int x]) (by rw [nI_clamp (show i < 2 ^ 31 by omega)] <;> rfl) ?_
    refine lv_if_lt (tgt := 26) hx hb dX3_many_19 (by decide) (fun c_19 => ?_) (fun c_19 => ?_)
    · skip
      refine lv_iconst (v := 0) hx hb dX3_many_26 (by decide) ?_
      refine lv_iadd hx hb dX3_many_27 ?_
      refine lv_istore_n (lv' := [(1, .int (x + 0)), (0, .ref o), (2, .int (nI i))]) hx hb dX3_many_28 rfl hl (by decide) rfl (fun ls hl => ?_)
      refine lv_iinc (v := nI (i + 1)) (lv' := [(2, .int (nI (i + 1))), (1, .int (x + 0)), (0, .ref o)]) hx hb dX3_many_29 hl (k := 2) rfl (nI_1 i) (by decide) rfl (fun ls hl => ?_)
      refine lv_goto (tgt := 4) hx hb dX3_many_32 (by decide) ?_
      rw [show sm_many_loop S (k + 1) i x = sm_many_loop S k (i + 1) (x + 0) from by rw [sm_many_loop]; simp only [if_pos c_19]]
      exact ih (i + 1) _ (by omega) _ _ _ T (lv_sub hl [2, 1, 0] rfl)
    · skip
      refine lv_iconst (v := 1) hx hb dX3_many_22 (by decide) ?_
      refine lv_goto (tgt := 27) hx hb dX3_many_23 (by decide) ?_
      refine lv_iadd hx hb dX3_many_27 ?_
      refine lv_istore_n (lv' := [(1, .int (x + 1)), (0, .ref o), (2, .int (nI i))]) hx hb dX3_many_28 rfl hl (by decide) rfl (fun ls hl => ?_)
      refine lv_iinc (v := nI (i + 1)) (lv' := [(2, .int (nI (i + 1))), (1, .int (x + 1)), (0, .ref o)]) hx hb dX3_many_29 hl (k := 2) rfl (nI_1 i) (by decide) rfl (fun ls hl => ?_)
      refine lv_goto (tgt := 4) hx hb dX3_many_32 (by decide) ?_
      rw [show sm_many_loop S (k + 1) i x = sm_many_loop S k (i + 1) (x + 1) from by rw [sm_many_loop]; simp only [if_neg c_19]]
      exact ih (i + 1) _ (by omega) _ _ _ T (lv_sub hl [2, 1, 0] rfl)
/-- many, its picture -/
def sm_many (S : Nat → Nat → Int32) (n : Nat) : Int32 := sm_many_loop S n 0 0
set_option maxHeartbeats 4000000 in
set_option maxRecDepth 100000 in
theorem c_M_many  (hG : hg_n G n) : MI l D (t0 :: md_tys cm) yX3_many wsX3_many { frames := 0, cells := 0, slots := 0, locals := 0 } [.ref o] (md_W o am cm G S B) (sm_many S n) (md_W o am cm G S B) := by
  refine MI.start (cc := cX3_many) (maxL := 3) (by decide) rfl (Nat.le_of_ble_eq_true rfl) (fun p e s m args below meth c A ls C T hl => ?_)
  have hx := C.1.1
  have hb := C.1.2.1
  have hml := C.1.2.2.1
  have hown : s.vm.findClass RX3 = some m.cls := C.1.2.2.2.1
  have hts := C.1.2.2.2.2
  have hK := C.2.2.2.1
  have hinM : ∀ w ∈ wsX30, w ∈ wsX3_many := fun w h => List.mem_cons_of_mem _ (inX3 w h)
  have hn32 := hG.1
  have hl : lv_has ls 3 [(0, .ref o)] := hl
  refine lv_iconst (v := 0) hx hb dX3_many_0 (by decide) ?_
  refine lv_istore_n (lv' := [(1, .int 0), (0, .ref o)]) hx hb dX3_many_1 rfl hl (by decide) rfl (fun ls hl => ?_)
  refine lv_iconst (v := 0) hx hb dX3_many_2 (by decide) ?_
  refine lv_istore_n (lv' := [(2, .int 0), (1, .int 0), (0, .ref o)]) hx hb dX3_many_3 rfl hl (by decide) rfl (fun ls hl => ?_)
  rw [show sm_many S n = sm_many_loop S n 0 0 from by rfl]
  exact lp_m_many hG C n 0 _ (by omega) _ _ _ T (lv_sub hl [2, 1, 0] rfl)
/-- lightOf, its picture -/
def sm_lightOf (G : Nat → Int32) (S : Nat → Nat → Int32) (n : Nat) (x1 : Int32) : Int32 := if (S x1.toNatClampNeg 3) = 1 then (if 4 ≤ ((G 2) - (G 2) / 16 * 16) then ((S x1.toNatClampNeg 2) / 2) else (S x1.toNatClampNeg 2)) else (if (S x1.toNatClampNeg 3) = 2 then (if (((G 2) / 32) - ((G 2) / 32) / 2 * 2) = 0 then (S x1.toNatClampNeg 2) else 0) else (if (S x1.toNatClampNeg 3) = 3 then (if 0 ≤ ((S x1.toNatClampNeg 2) - (sm_many S n)) then ((S x1.toNatClampNeg 2) - (sm_many S n)) else 0) else (S x1.toNatClampNeg 2)))
set_option maxHeartbeats 4000000 in
set_option maxRecDepth 100000 in
theorem c_M_lightOf {x1 : Int32} (h1 : vp_in x1 32) (hG : hg_n G n) : MI l D (t0 :: md_tys cm) yX3_lightOf wsX3_lightOf { frames := 1, cells := 0, slots := 0, locals := 22 } [.ref o, .int x1] (md_W o am cm G S B) (sm_lightOf G S n x1) (md_W o am cm G S B) := by
  refine MI.start (cc := cX3_lightOf) (maxL := 4) (by decide) rfl (Nat.le_of_ble_eq_true rfl) (fun p e s m args below meth c A ls C T hl => ?_)
  have hx := C.1.1
  have hb := C.1.2.1
  have hml := C.1.2.2.1
  have hown : s.vm.findClass RX3 = some m.cls := C.1.2.2.2.1
  have hts := C.1.2.2.2.2
  have hK := C.2.2.2.1
  have hinM : ∀ w ∈ wsX30, w ∈ wsX3_lightOf := fun w h => List.mem_cons_of_mem _ (inX3 w h)
  have hn32 := hG.1
  have hl : lv_has ls 4 [(0, .ref o), (1, .int x1)] := hl
  refine lv_aload_n hx hb dX3_lightOf_0 rfl (lv_at hl 0 rfl) ?_
  refine va_get (D := D) (ci := 2) (v := .ref (am 2)) (C := RX3) (T := TX3) (N := 19) hx hb hts hinM hown hK T.1 0 rfl rfl 4 (by decide) (hts _ (List.mem_cons_of_mem _ k3_f16)) (fun _ h9 => h9) rfl dX3_lightOf_1 ?_
  refine lv_iload_n hx hb dX3_lightOf_4 rfl (lv_at hl 1 rfl) ?_
  have h_5 : vp_in x1 32 := h1
  refine va_iald hx hb hK T.1 3 3 rfl rfl h_5 dX3_lightOf_5 ?_
  refine W.eq (g2 := F0 m 6 ls [.int (S x1.toNatClampNeg 2)]) rfl ?_
  refine lv_istore_n (lv' := [(2, .int (S x1.toNatClampNeg 2)), (0, .ref o), (1, .int x1)]) hx hb dX3_lightOf_6 rfl hl (by decide) rfl (fun ls hl => ?_)
  refine lv_iload_n hx hb dX3_lightOf_7 rfl (lv_at hl 0 rfl) ?_
  refine lv_aload_n hx hb dX3_lightOf_8 rfl (lv_at hl 1 rfl) ?_
  refine hw_Vi (As := []) (rest := [.int (S x1.toNatClampNeg 2)]) C T (c_M_many hG) (cwV 0 hts (x3_in k3_m109 k3_i_many k3_s_many k3_ini k3_c_many) rfl rfl rfl (by decide +kernel) ⟨Nat.le_of_ble_eq_true rfl, Nat.le_of_ble_eq_true rfl⟩) md_isO md_ad rfl hl.1 rfl (Nat.le_of_ble_eq_true rfl) dX3_lightOf_9 ⟨Nat.zero_le _, Nat.zero_le _⟩ (fun H locs T => ?_)
  refine lv_isub hx hb dX3_lightOf_12 ?_
  refine lv_istore_n (lv' := [(3, .int ((S x1.toNatClampNeg 2) - (sm_many S n))), (2, .int (S x1.toNatClampNeg 2)), (0, .ref o), (1, .int x1)]) hx hb dX3_lightOf_13 rfl hl (by decide) rfl (fun ls hl => ?_)
  refine lv_aload_n hx hb dX3_lightOf_14 rfl (lv_at hl 2 rfl) ?_
  refine va_get (D := D) (ci := 2) (v := .ref (am 3)) (C := RX3) (T := TX3) (N := 19) hx hb hts hinM hown hK T.1 0 rfl rfl 5 (by decide) (hts _ (List.mem_cons_of_mem _ k3_f19)) (fun _ h9 => h9) rfl dX3_lightOf_15 ?_
  refine lv_iload_n hx hb dX3_lightOf_18 rfl (lv_at hl 3 rfl) ?_
  have h_19 : vp_in x1 32 := h1
  refine va_iald hx hb hK T.1 4 4 rfl rfl h_19 dX3_lightOf_19 ?_
  refine W.eq (g2 := F0 m 20 ls [.int (S x1.toNatClampNeg 3)]) rfl ?_
  by_cases c_20_1 : (S x1.toNatClampNeg 3) = 1
  · skip
    refine lv_tableIn (off := 28) (tgt := 48) hx hb dX3_lightOf_20 (by rw [c_20_1]; decide) (by rw [c_20_1]; decide) (by rw [c_20_1]; decide +kernel) (by decide) ?_
    refine lv_aload_n hx hb dX3_lightOf_48 rfl (lv_at hl 2 rfl) ?_
    refine va_get (D := D) (ci := 2) (v := .int (G 2)) (C := RX3) (T := TX3) (N := 19) hx hb hts hinM hown hK T.1 0 rfl rfl 16 (by decide) (hts _ (List.mem_cons_of_mem _ k3_f70)) (fun _ h9 => h9) rfl dX3_lightOf_49 ?_
    refine lv_bipush (v := 16) hx hb dX3_lightOf_52 (by decide) ?_
    refine lv_irem hx hb dX3_lightOf_54 (by decide) ?_
    refine lv_iconst (v := 4) hx hb dX3_lightOf_55 (by decide) ?_
    refine lv_icmp_ge (tgt := 63) hx hb dX3_lightOf_56 (by decide) (fun c_56 => ?_) (fun c_56 => ?_)
    · skip
      refine lv_iload_n hx hb dX3_lightOf_63 rfl (lv_at hl 1 rfl) ?_
      refine lv_iconst (v := 2) hx hb dX3_lightOf_64 (by decide) ?_
      refine lv_idiv hx hb dX3_lightOf_65 (by decide) ?_
      have e9 : sm_lightOf G S n x1 = (S x1.toNatClampNeg 2) / 2 := by unfold sm_lightOf; simp only [if_pos c_20_1, if_pos c_56]
      exact hw_iret C T rfl e9.symm rfl dX3_lightOf_66
    · skip
      refine lv_iload_n hx hb dX3_lightOf_59 rfl (lv_at hl 1 rfl) ?_
      refine lv_goto (tgt := 66) hx hb dX3_lightOf_60 (by decide) ?_
      have e9 : sm_lightOf G S n x1 = S x1.toNatClampNeg 2 := by unfold sm_lightOf; simp only [if_pos c_20_1, if_neg c_56]
      exact hw_iret C T rfl e9.symm rfl dX3_lightOf_66
  · skip
    by_cases c_20_2 : (S x1.toNatClampNeg 3) = 2
    · skip
      refine lv_tableIn (off := 47) (tgt := 67) hx hb dX3_lightOf_20 (by rw [c_20_2]; decide) (by rw [c_20_2]; decide) (by rw [c_20_2]; decide +kernel) (by decide) ?_
      refine lv_aload_n hx hb dX3_lightOf_67 rfl (lv_at hl 2 rfl) ?_
      refine va_get (D := D) (ci := 2) (v := .int (G 2)) (C := RX3) (T := TX3) (N := 19) hx hb hts hinM hown hK T.1 0 rfl rfl 16 (by decide) (hts _ (List.mem_cons_of_mem _ k3_f70)) (fun _ h9 => h9) rfl dX3_lightOf_68 ?_
      refine lv_bipush (v := 32) hx hb dX3_lightOf_71 (by decide) ?_
      refine lv_idiv hx hb dX3_lightOf_73 (by decide) ?_
      refine lv_iconst (v := 2) hx hb dX3_lightOf_74 (by decide) ?_
      refine lv_irem hx hb dX3_lightOf_75 (by decide) ?_
      refine lv_if_ne (tgt := 83) hx hb dX3_lightOf_76 (by decide) (fun c_76 => ?_) (fun c_76 => ?_)
      · skip
        refine lv_iconst (v := 0) hx hb dX3_lightOf_83 (by decide) ?_
        have e9 : sm_lightOf G S n x1 = 0 := by unfold sm_lightOf; simp only [if_neg c_20_1, if_pos c_20_2, if_neg c_76]
        exact hw_iret C T rfl e9.symm rfl dX3_lightOf_84
      · skip
        refine lv_iload_n hx hb dX3_lightOf_79 rfl (lv_at hl 1 rfl) ?_
        refine lv_goto (tgt := 84) hx hb dX3_lightOf_80 (by decide) ?_
        have e9 : sm_lightOf G S n x1 = S x1.toNatClampNeg 2 := by unfold sm_lightOf; simp only [if_neg c_20_1, if_pos c_20_2, if_pos c_76]
        exact hw_iret C T rfl e9.symm rfl dX3_lightOf_84
    · skip
      by_cases c_20_3 : (S x1.toNatClampNeg 3) = 3
      · skip
        refine lv_tableIn (off := 65) (tgt := 85) hx hb dX3_lightOf_20 (by rw [c_20_3]; decide) (by rw [c_20_3]; decide) (by rw [c_20_3]; decide +kernel) (by decide) ?_
        refine lv_iload_n hx hb dX3_lightOf_85 rfl (lv_at hl 0 rfl) ?_
        refine lv_if_ge (tgt := 93) hx hb dX3_lightOf_86 (by decide) (fun c_86 => ?_) (fun c_86 => ?_)
        · skip
          refine lv_iload_n hx hb dX3_lightOf_93 rfl (lv_at hl 0 rfl) ?_
          have e9 : sm_lightOf G S n x1 = (S x1.toNatClampNeg 2) - (sm_many S n) := by unfold sm_lightOf; simp only [if_neg c_20_1, if_neg c_20_2, if_pos c_20_3, if_pos c_86]
          exact hw_iret C T rfl e9.symm rfl dX3_lightOf_94
        · skip
          refine lv_iconst (v := 0) hx hb dX3_lightOf_89 (by decide) ?_
          refine lv_goto (tgt := 94) hx hb dX3_lightOf_90 (by decide) ?_
          have e9 : sm_lightOf G S n x1 = 0 := by unfold sm_lightOf; simp only [if_neg c_20_1, if_neg c_20_2, if_pos c_20_3, if_neg c_86]
          exact hw_iret C T rfl e9.symm rfl dX3_lightOf_94
      · skip
        refine lv_tableOut (tgt := 95) hx hb dX3_lightOf_20 (by have z1 := lv_neT (a := 1) c_20_1 (by decide); have z2 := lv_neT (a := 2) c_20_2 (by decide); have z3 := lv_neT (a := 3) c_20_3 (by decide); omega) (by decide) ?_
        refine lv_iload_n hx hb dX3_lightOf_95 rfl (lv_at hl 1 rfl) ?_
        have e9 : sm_lightOf G S n x1 = S x1.toNatClampNeg 2 := by unfold sm_lightOf; simp only [if_neg c_20_1, if_neg c_20_2, if_neg c_20_3]
        exact hw_iret C T rfl e9.symm rfl dX3_lightOf_96
end
