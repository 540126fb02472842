section
variable {l : Launch} {D : va_G} {o : Nat} {am : Nat → Nat} {cm : Nat → ClassId} {t0 : ClassId × FieldType} {G : Nat → Int32} {S : Nat → Nat → Int32} {B : Nat → Int32} {n : Nat}
/-- begin, its picture -/
def sm_begin (G : Nat → Int32) (S : Nat → Nat → Int32) (B : Nat → Int32) (n : Nat) (x1 : Int32) (x2 : Int32) : Int32 × (Nat → Int32) × (Nat → Nat → Int32) := if (sm_isSector (upd G 3 0) x1) = 0 then (0, upd G 3 0, S) else (if x2 < 0 then (0, upd G 3 0, S) else (if x2 ≤ 2 then (if (S x1.toNatClampNeg 8) < 0 then (if x2 = 1 then (if x2 = 0 then (if ((sm_lowCeiling (up2 (up2 (up2 (up2 S x1.toNatClampNeg 8 x2) x1.toNatClampNeg 10 0) x1.toNatClampNeg 9 (-1)) x1.toNatClampNeg 12 ((up2 (up2 (up2 S x1.toNatClampNeg 8 x2) x1.toNatClampNeg 10 0) x1.toNatClampNeg 9 (-1)) x1.toNatClampNeg 6)) B n x1) - 4) ≤ ((up2 (up2 (up2 (up2 S x1.toNatClampNeg 8 x2) x1.toNatClampNeg 10 0) x1.toNatClampNeg 9 (-1)) x1.toNatClampNeg 12 ((up2 (up2 (up2 S x1.toNatClampNeg 8 x2) x1.toNatClampNeg 10 0) x1.toNatClampNeg 9 (-1)) x1.toNatClampNeg 6)) x1.toNatClampNeg 7) then (1, upd G 3 0, up2 (up2 (up2 (up2 (up2 S x1.toNatClampNeg 8 x2) x1.toNatClampNeg 10 0) x1.toNatClampNeg 9 (-1)) x1.toNatClampNeg 12 ((up2 (up2 (up2 S x1.toNatClampNeg 8 x2) x1.toNatClampNeg 10 0) x1.toNatClampNeg 9 (-1)) x1.toNatClampNeg 6)) x1.toNatClampNeg 11 ((up2 (up2 (up2 (up2 S x1.toNatClampNeg 8 x2) x1.toNatClampNeg 10 0) x1.toNatClampNeg 9 (-1)) x1.toNatClampNeg 12 ((up2 (up2 (up2 S x1.toNatClampNeg 8 x2) x1.toNatClampNeg 10 0) x1.toNatClampNeg 9 (-1)) x1.toNatClampNeg 6)) x1.toNatClampNeg 7)) else (1, upd G 3 0, up2 (up2 (up2 (up2 (up2 S x1.toNatClampNeg 8 x2) x1.toNatClampNeg 10 0) x1.toNatClampNeg 9 (-1)) x1.toNatClampNeg 12 ((up2 (up2 (up2 S x1.toNatClampNeg 8 x2) x1.toNatClampNeg 10 0) x1.toNatClampNeg 9 (-1)) x1.toNatClampNeg 6)) x1.toNatClampNeg 11 ((sm_lowCeiling (up2 (up2 (up2 (up2 S x1.toNatClampNeg 8 x2) x1.toNatClampNeg 10 0) x1.toNatClampNeg 9 (-1)) x1.toNatClampNeg 12 ((up2 (up2 (up2 S x1.toNatClampNeg 8 x2) x1.toNatClampNeg 10 0) x1.toNatClampNeg 9 (-1)) x1.toNatClampNeg 6)) B n x1) - 4))) else (1, upd G 3 0, up2 (up2 (up2 (up2 (up2 S x1.toNatClampNeg 8 x2) x1.toNatClampNeg 10 0) x1.toNatClampNeg 9 (-1)) x1.toNatClampNeg 12 ((up2 (up2 (up2 S x1.toNatClampNeg 8 x2) x1.toNatClampNeg 10 0) x1.toNatClampNeg 9 (-1)) x1.toNatClampNeg 6)) x1.toNatClampNeg 11 (sm_lowFloor (up2 (up2 (up2 (up2 S x1.toNatClampNeg 8 x2) x1.toNatClampNeg 10 0) x1.toNatClampNeg 9 (-1)) x1.toNatClampNeg 12 ((up2 (up2 (up2 S x1.toNatClampNeg 8 x2) x1.toNatClampNeg 10 0) x1.toNatClampNeg 9 (-1)) x1.toNatClampNeg 6)) B n x1))) else (if x2 = 0 then (if ((sm_lowCeiling (up2 (up2 (up2 (up2 S x1.toNatClampNeg 8 x2) x1.toNatClampNeg 10 0) x1.toNatClampNeg 9 1) x1.toNatClampNeg 12 ((up2 (up2 (up2 S x1.toNatClampNeg 8 x2) x1.toNatClampNeg 10 0) x1.toNatClampNeg 9 1) x1.toNatClampNeg 6)) B n x1) - 4) ≤ ((up2 (up2 (up2 (up2 S x1.toNatClampNeg 8 x2) x1.toNatClampNeg 10 0) x1.toNatClampNeg 9 1) x1.toNatClampNeg 12 ((up2 (up2 (up2 S x1.toNatClampNeg 8 x2) x1.toNatClampNeg 10 0) x1.toNatClampNeg 9 1) x1.toNatClampNeg 6)) x1.toNatClampNeg 7) then (1, upd G 3 0, up2 (up2 (up2 (up2 (up2 S x1.toNatClampNeg 8 x2) x1.toNatClampNeg 10 0) x1.toNatClampNeg 9 1) x1.toNatClampNeg 12 ((up2 (up2 (up2 S x1.toNatClampNeg 8 x2) x1.toNatClampNeg 10 0) x1.toNatClampNeg 9 1) x1.toNatClampNeg 6)) x1.toNatClampNeg 11 ((up2 (up2 (up2 (up2 S x1.toNatClampNeg 8 x2) x1.toNatClampNeg 10 0) x1.toNatClampNeg 9 1) x1.toNatClampNeg 12 ((up2 (up2 (up2 S x1.toNatClampNeg 8 x2) x1.toNatClampNeg 10 0) x1.toNatClampNeg 9 1) x1.toNatClampNeg 6)) x1.toNatClampNeg 7)) else (1, upd G 3 0, up2 (up2 (up2 (up2 (up2 S x1.toNatClampNeg 8 x2) x1.toNatClampNeg 10 0) x1.toNatClampNeg 9 1) x1.toNatClampNeg 12 ((up2 (up2 (up2 S x1.toNatClampNeg 8 x2) x1.toNatClampNeg 10 0) x1.toNatClampNeg 9 1) x1.toNatClampNeg 6)) x1.toNatClampNeg 11 ((sm_lowCeiling (up2 (up2 (up2 (up2 S x1.toNatClampNeg 8 x2) x1.toNatClampNeg 10 0) x1.toNatClampNeg 9 1) x1.toNatClampNeg 12 ((up2 (up2 (up2 S x1.toNatClampNeg 8 x2) x1.toNatClampNeg 10 0) x1.toNatClampNeg 9 1) x1.toNatClampNeg 6)) B n x1) - 4))) else (if ((up2 (up2 (up2 (up2 S x1.toNatClampNeg 8 x2) x1.toNatClampNeg 10 0) x1.toNatClampNeg 9 1) x1.toNatClampNeg 12 ((up2 (up2 (up2 S x1.toNatClampNeg 8 x2) x1.toNatClampNeg 10 0) x1.toNatClampNeg 9 1) x1.toNatClampNeg 6)) x1.toNatClampNeg 7) ≤ (sm_highFloor (up2 (up2 (up2 (up2 S x1.toNatClampNeg 8 x2) x1.toNatClampNeg 10 0) x1.toNatClampNeg 9 1) x1.toNatClampNeg 12 ((up2 (up2 (up2 S x1.toNatClampNeg 8 x2) x1.toNatClampNeg 10 0) x1.toNatClampNeg 9 1) x1.toNatClampNeg 6)) B n x1) then (1, upd G 3 0, up2 (up2 (up2 (up2 (up2 S x1.toNatClampNeg 8 x2) x1.toNatClampNeg 10 0) x1.toNatClampNeg 9 1) x1.toNatClampNeg 12 ((up2 (up2 (up2 S x1.toNatClampNeg 8 x2) x1.toNatClampNeg 10 0) x1.toNatClampNeg 9 1) x1.toNatClampNeg 6)) x1.toNatClampNeg 11 ((up2 (up2 (up2 (up2 S x1.toNatClampNeg 8 x2) x1.toNatClampNeg 10 0) x1.toNatClampNeg 9 1) x1.toNatClampNeg 12 ((up2 (up2 (up2 S x1.toNatClampNeg 8 x2) x1.toNatClampNeg 10 0) x1.toNatClampNeg 9 1) x1.toNatClampNeg 6)) x1.toNatClampNeg 7)) else (1, upd G 3 0, up2 (up2 (up2 (up2 (up2 S x1.toNatClampNeg 8 x2) x1.toNatClampNeg 10 0) x1.toNatClampNeg 9 1) x1.toNatClampNeg 12 ((up2 (up2 (up2 S x1.toNatClampNeg 8 x2) x1.toNatClampNeg 10 0) x1.toNatClampNeg 9 1) x1.toNatClampNeg 6)) x1.toNatClampNeg 11 (sm_highFloor (up2 (up2 (up2 (up2 S x1.toNatClampNeg 8 x2) x1.toNatClampNeg 10 0) x1.toNatClampNeg 9 1) x1.toNatClampNeg 12 ((up2 (up2 (up2 S x1.toNatClampNeg 8 x2) x1.toNatClampNeg 10 0) x1.toNatClampNeg 9 1) x1.toNatClampNeg 6)) B n x1))))) else (if x2 = 0 then (if (S x1.toNatClampNeg 8) = 0 then (if 1 ≤ (S x1.toNatClampNeg 9) then (0, upd G 3 0, up2 (up2 S x1.toNatClampNeg 9 (S x1.toNatClampNeg 9)) x1.toNatClampNeg 10 ((up2 S x1.toNatClampNeg 9 (S x1.toNatClampNeg 9)) x1.toNatClampNeg 10)) else (1, upd G 3 0, up2 (up2 S x1.toNatClampNeg 9 1) x1.toNatClampNeg 10 0)) else (0, upd G 3 0, up2 (up2 S x1.toNatClampNeg 9 (S x1.toNatClampNeg 9)) x1.toNatClampNeg 10 ((up2 S x1.toNatClampNeg 9 (S x1.toNatClampNeg 9)) x1.toNatClampNeg 10))) else (0, upd G 3 0, up2 (up2 S x1.toNatClampNeg 9 (S x1.toNatClampNeg 9)) x1.toNatClampNeg 10 ((up2 S x1.toNatClampNeg 9 (S x1.toNatClampNeg 9)) x1.toNatClampNeg 10)))) else (0, upd G 3 0, S)))
theorem sm_begin_0 {G : Nat → Int32} {S : Nat → Nat → Int32} {B : Nat → Int32} {n : Nat} {x1 : Int32} {x2 : Int32} : (sm_begin G S B n x1 x2).2.1 0 = G 0 := by
  unfold sm_begin
  repeat' split
  all_goals rfl
theorem sm_begin_n {G : Nat → Int32} {S : Nat → Nat → Int32} {B : Nat → Int32} {n : Nat} {x1 : Int32} {x2 : Int32} (h : hg_n G n) : hg_n (sm_begin G S B n x1 x2).2.1 n := ⟨h.1, by rw [sm_begin_0]; exact h.2⟩
set_option maxHeartbeats 4000000 in
set_option maxRecDepth 100000 in
theorem c_M_begin {x1 : Int32} {x2 : Int32} (hG : hg_n G n) : MI l D (t0 :: md_tys cm) yX3_begin wsX3_begin { frames := 1, cells := 0, slots := 0, locals := 23 } [.ref o, .int x1, .int x2] (md_W o am cm G S B) ((sm_begin G S B n x1 x2).1) (md_W o am cm (sm_begin G S B n x1 x2).2.1 (sm_begin G S B n x1 x2).2.2 B) := by
  refine MI.start (cc := cX3_begin) (maxL := 5) (by decide) rfl (Nat.le_of_ble_eq_true rfl) (fun p e s m args below meth c A ls C T hl => ?_)
  have hx := C.1.1
  have hb := C.1.2.1
  have hml := C.1.2.2.1
  have hown : s.vm.findClass RX3 = some m.cls := C.1.2.2.2.1
  have hts := C.1.2.2.2.2
  have hK := C.2.2.2.1
  have hinM : ∀ w ∈ wsX30, w ∈ wsX3_begin := fun w h => List.mem_cons_of_mem _ (inX3 w h)
  have hn32 := hG.1
  have hl : lv_has ls 5 [(0, .ref o), (1, .int x1), (2, .int x2)] := hl
  refine lv_aload_n hx hb dX3_begin_0 rfl (lv_at hl 0 rfl) ?_
  refine lv_iconst (v := 0) hx hb dX3_begin_1 (by decide) ?_
  refine va_put (D := D) (ci := 2) (v := .int 0) (ty := .int) (C := RX3) (T := TX3) (N := 19) hx hb hts hinM tyX3 tyX3_ok nmX3 hown hK T.1 T.2.1 T.2.2 0 rfl rfl 0 (by decide) (hts _ (List.mem_cons_of_mem _ k3_f54)) (fun _ h9 => h9) rfl (by decide +kernel) rfl rfl (Nat.le_of_ble_eq_true rfl) dX3_begin_2 (fun H locs hP hD hS => ?_)
  have T := md_setG (k := 3) (v := 0) (kk := 0) rfl ⟨hP, hD, hS⟩
  refine lv_aload_n hx hb dX3_begin_5 rfl (lv_at hl 0 rfl) ?_
  refine lv_iload_n hx hb dX3_begin_6 rfl (lv_at hl 1 rfl) ?_
  refine hw_Vi (As := [.int x1]) (rest := []) C T (c_M_isSector) (cwV 1 hts (x3_in k3_m63 k3_i_isSector k3_s_isSector k3_ini k3_c_isSector) rfl rfl rfl (by decide +kernel) ⟨Nat.le_of_ble_eq_true rfl, Nat.le_of_ble_eq_true rfl⟩) md_isO md_ad rfl hl.1 rfl (Nat.le_of_ble_eq_true rfl) dX3_begin_7 ⟨Nat.zero_le _, Nat.zero_le _⟩ (fun H locs T => ?_)
  refine lv_if_eq (tgt := 22) hx hb dX3_begin_10 (by decide) (fun c_10 => ?_) (fun c_10 => ?_)
  · skip
    refine lv_iconst (v := 0) hx hb dX3_begin_22 (by decide) ?_
    have e9 : sm_begin G S B n x1 x2 = (0, upd G 3 0, S) := by unfold sm_begin; simp only [if_pos c_10]
    exact hw_iret C T (by decide) (by rw [e9]) (by rw [e9]) dX3_begin_23
  · skip
    refine lv_iload_n hx hb dX3_begin_13 rfl (lv_at hl 2 rfl) ?_
    refine lv_if_lt (tgt := 22) hx hb dX3_begin_14 (by decide) (fun c_14 => ?_) (fun c_14 => ?_)
    · skip
      refine lv_iconst (v := 0) hx hb dX3_begin_22 (by decide) ?_
      have e9 : sm_begin G S B n x1 x2 = (0, upd G 3 0, S) := by unfold sm_begin; simp only [if_neg c_10, if_pos c_14]
      exact hw_iret C T (by decide) (by rw [e9]) (by rw [e9]) dX3_begin_23
    · skip
      refine lv_iload_n hx hb dX3_begin_17 rfl (lv_at hl 2 rfl) ?_
      refine lv_iconst (v := 2) hx hb dX3_begin_18 (by decide) ?_
      refine lv_icmp_le (tgt := 24) hx hb dX3_begin_19 (by decide) (fun c_19 => ?_) (fun c_19 => ?_)
      · skip
        refine lv_aload_n hx hb dX3_begin_24 rfl (lv_at hl 0 rfl) ?_
        refine va_get (D := D) (ci := 2) (v := .ref (am 8)) (C := RX3) (T := TX3) (N := 19) hx hb hts hinM hown hK T.1 0 rfl rfl 11 (by decide) (hts _ (List.mem_cons_of_mem _ k3_f35)) (fun _ h9 => h9) rfl dX3_begin_25 ?_
        refine lv_iload_n hx hb dX3_begin_28 rfl (lv_at hl 1 rfl) ?_
        have h_29 : vp_in x1 32 := (mx_in (hg_up (by decide) hG) c_10)
        refine va_iald hx hb hK T.1 9 9 rfl rfl h_29 dX3_begin_29 ?_
        refine W.eq (g2 := F0 m 30 ls [.int (S x1.toNatClampNeg 8)]) rfl ?_
        refine lv_if_lt (tgt := 104) hx hb dX3_begin_30 (by decide) (fun c_30 => ?_) (fun c_30 => ?_)
        · skip
          refine lv_aload_n hx hb dX3_begin_104 rfl (lv_at hl 0 rfl) ?_
          refine va_get (D := D) (ci := 2) (v := .ref (am 8)) (C := RX3) (T := TX3) (N := 19) hx hb hts hinM hown hK T.1 0 rfl rfl 11 (by decide) (hts _ (List.mem_cons_of_mem _ k3_f35)) (fun _ h9 => h9) rfl dX3_begin_105 ?_
          refine lv_iload_n hx hb dX3_begin_108 rfl (lv_at hl 1 rfl) ?_
          refine lv_iload_n hx hb dX3_begin_109 rfl (lv_at hl 2 rfl) ?_
          have h_110 : vp_in x1 32 := (mx_in (hg_up (by decide) hG) c_10)
          refine va_iast (x := x2) hx hb hK T.1 T.2.1 T.2.2 9 9 rfl rfl h_110 dX3_begin_110 (fun H locs hP hD hS => ?_)
          have T := md_set8 (i := x1.toNatClampNeg) (v := x2) ⟨hP, hD, hS⟩
          refine lv_aload_n hx hb dX3_begin_111 rfl (lv_at hl 0 rfl) ?_
          refine va_get (D := D) (ci := 2) (v := .ref (am 10)) (C := RX3) (T := TX3) (N := 19) hx hb hts hinM hown hK T.1 0 rfl rfl 13 (by decide) (hts _ (List.mem_cons_of_mem _ k3_f41)) (fun _ h9 => h9) rfl dX3_begin_112 ?_
          refine lv_iload_n hx hb dX3_begin_115 rfl (lv_at hl 1 rfl) ?_
          refine lv_iconst (v := 0) hx hb dX3_begin_116 (by decide) ?_
          have h_117 : vp_in x1 32 := (mx_in (hg_up (by decide) hG) c_10)
          refine va_iast (x := 0) hx hb hK T.1 T.2.1 T.2.2 11 11 rfl rfl h_117 dX3_begin_117 (fun H locs hP hD hS => ?_)
          have T := md_set10 (i := x1.toNatClampNeg) (v := 0) ⟨hP, hD, hS⟩
          refine lv_aload_n hx hb dX3_begin_118 rfl (lv_at hl 0 rfl) ?_
          refine va_get (D := D) (ci := 2) (v := .ref (am 9)) (C := RX3) (T := TX3) (N := 19) hx hb hts hinM hown hK T.1 0 rfl rfl 12 (by decide) (hts _ (List.mem_cons_of_mem _ k3_f38)) (fun _ h9 => h9) rfl dX3_begin_119 ?_
          refine lv_iload_n hx hb dX3_begin_122 rfl (lv_at hl 1 rfl) ?_
          refine lv_iload_n hx hb dX3_begin_123 rfl (lv_at hl 2 rfl) ?_
          refine lv_iconst (v := 1) hx hb dX3_begin_124 (by decide) ?_
          refine lv_icmp_ne (tgt := 132) hx hb dX3_begin_125 (by decide) (fun c_125 => ?_) (fun c_125 => ?_)
          · skip
            refine lv_iconst (v := 1) hx hb dX3_begin_132 (by decide) ?_
            have h_133 : vp_in x1 32 := (mx_in (hg_up (by decide) hG) c_10)
            refine va_iast (x := 1) hx hb hK T.1 T.2.1 T.2.2 10 10 rfl rfl h_133 dX3_begin_133 (fun H locs hP hD hS => ?_)
            have T := md_set9 (i := x1.toNatClampNeg) (v := 1) ⟨hP, hD, hS⟩
            refine lv_aload_n hx hb dX3_begin_134 rfl (lv_at hl 0 rfl) ?_
            refine va_get (D := D) (ci := 2) (v := .ref (am 12)) (C := RX3) (T := TX3) (N := 19) hx hb hts hinM hown hK T.1 0 rfl rfl 15 (by decide) (hts _ (List.mem_cons_of_mem _ k3_f47)) (fun _ h9 => h9) rfl dX3_begin_135 ?_
            refine lv_iload_n hx hb dX3_begin_138 rfl (lv_at hl 1 rfl) ?_
            refine lv_aload_n hx hb dX3_begin_139 rfl (lv_at hl 0 rfl) ?_
            refine va_get (D := D) (ci := 2) (v := .ref (am 6)) (C := RX3) (T := TX3) (N := 19) hx hb hts hinM hown hK T.1 0 rfl rfl 9 (by decide) (hts _ (List.mem_cons_of_mem _ k3_f29)) (fun _ h9 => h9) rfl dX3_begin_140 ?_
            refine lv_iload_n hx hb dX3_begin_143 rfl (lv_at hl 1 rfl) ?_
            have h_144 : vp_in x1 32 := (mx_in (hg_up (by decide) hG) c_10)
            refine va_iald hx hb hK T.1 7 7 rfl rfl h_144 dX3_begin_144 ?_
            refine W.eq (g2 := F0 m 145 ls [.int ((up2 (up2 (up2 S x1.toNatClampNeg 8 x2) x1.toNatClampNeg 10 0) x1.toNatClampNeg 9 1) x1.toNatClampNeg 6), .int x1, .ref (am 12)]) rfl ?_
            have h_145 : vp_in x1 32 := (mx_in (hg_up (by decide) hG) c_10)
            refine va_iast (x := (up2 (up2 (up2 S x1.toNatClampNeg 8 x2) x1.toNatClampNeg 10 0) x1.toNatClampNeg 9 1) x1.toNatClampNeg 6) hx hb hK T.1 T.2.1 T.2.2 13 13 rfl rfl h_145 dX3_begin_145 (fun H locs hP hD hS => ?_)
            have T := md_set12 (i := x1.toNatClampNeg) (v := (up2 (up2 (up2 S x1.toNatClampNeg 8 x2) x1.toNatClampNeg 10 0) x1.toNatClampNeg 9 1) x1.toNatClampNeg 6) ⟨hP, hD, hS⟩
            refine lv_aload_n hx hb dX3_begin_146 rfl (lv_at hl 0 rfl) ?_
            refine lv_iload_n hx hb dX3_begin_147 rfl (lv_at hl 1 rfl) ?_
            refine hw_Vi (As := [.int x1]) (rest := []) C T (c_M_lowCeiling (mx_in (hg_up (by decide) hG) c_10) (hg_up (by decide) hG)) (cwV 1 hts (x3_in k3_m77 k3_i_lowCeiling k3_s_lowCeiling k3_ini k3_c_lowCeiling) rfl rfl rfl (by decide +kernel) ⟨Nat.le_of_ble_eq_true rfl, Nat.le_of_ble_eq_true rfl⟩) md_isO md_ad rfl hl.1 rfl (Nat.le_of_ble_eq_true rfl) dX3_begin_148 ⟨Nat.zero_le _, Nat.zero_le _⟩ (fun H locs T => ?_)
            refine lv_iconst (v := 4) hx hb dX3_begin_151 (by decide) ?_
            refine lv_isub hx hb dX3_begin_152 ?_
            refine lv_istore_n (lv' := [(3, .int ((sm_lowCeiling (up2 (up2 (up2 (up2 S x1.toNatClampNeg 8 x2) x1.toNatClampNeg 10 0) x1.toNatClampNeg 9 1) x1.toNatClampNeg 12 ((up2 (up2 (up2 S x1.toNatClampNeg 8 x2) x1.toNatClampNeg 10 0) x1.toNatClampNeg 9 1) x1.toNatClampNeg 6)) B n x1) - 4)), (0, .ref o), (1, .int x1), (2, .int x2)]) hx hb dX3_begin_153 rfl hl (by decide) rfl (fun ls hl => ?_)
            refine lv_aload_n hx hb dX3_begin_154 rfl (lv_at hl 1 rfl) ?_
            refine lv_iload_n hx hb dX3_begin_155 rfl (lv_at hl 2 rfl) ?_
            refine hw_Vi (As := [.int x1]) (rest := []) C T (c_M_highFloor (mx_in (hg_up (by decide) hG) c_10) (hg_up (by decide) hG)) (cwV 1 hts (x3_in k3_m81 k3_i_highFloor k3_s_highFloor k3_ini k3_c_highFloor) rfl rfl rfl (by decide +kernel) ⟨Nat.le_of_ble_eq_true rfl, Nat.le_of_ble_eq_true rfl⟩) md_isO md_ad rfl hl.1 rfl (Nat.le_of_ble_eq_true rfl) dX3_begin_156 ⟨Nat.zero_le _, Nat.zero_le _⟩ (fun H locs T => ?_)
            refine lv_istore (lv' := [(4, .int (sm_highFloor (up2 (up2 (up2 (up2 S x1.toNatClampNeg 8 x2) x1.toNatClampNeg 10 0) x1.toNatClampNeg 9 1) x1.toNatClampNeg 12 ((up2 (up2 (up2 S x1.toNatClampNeg 8 x2) x1.toNatClampNeg 10 0) x1.toNatClampNeg 9 1) x1.toNatClampNeg 6)) B n x1)), (3, .int ((sm_lowCeiling (up2 (up2 (up2 (up2 S x1.toNatClampNeg 8 x2) x1.toNatClampNeg 10 0) x1.toNatClampNeg 9 1) x1.toNatClampNeg 12 ((up2 (up2 (up2 S x1.toNatClampNeg 8 x2) x1.toNatClampNeg 10 0) x1.toNatClampNeg 9 1) x1.toNatClampNeg 6)) B n x1) - 4)), (0, .ref o), (1, .int x1), (2, .int x2)]) hx hb dX3_begin_159 hl (by decide) rfl (fun ls hl => ?_)
            refine lv_aload_n hx hb dX3_begin_161 rfl (lv_at hl 2 rfl) ?_
            refine va_get (D := D) (ci := 2) (v := .ref (am 11)) (C := RX3) (T := TX3) (N := 19) hx hb hts hinM hown hK T.1 0 rfl rfl 14 (by decide) (hts _ (List.mem_cons_of_mem _ k3_f44)) (fun _ h9 => h9) rfl dX3_begin_162 ?_
            refine lv_iload_n hx hb dX3_begin_165 rfl (lv_at hl 3 rfl) ?_
            refine lv_iload_n hx hb dX3_begin_166 rfl (lv_at hl 4 rfl) ?_
            refine lv_if_ne (tgt := 193) hx hb dX3_begin_167 (by decide) (fun c_167 => ?_) (fun c_167 => ?_)
            · skip
              refine lv_iload_n hx hb dX3_begin_193 rfl (lv_at hl 4 rfl) ?_
              refine lv_iconst (v := 1) hx hb dX3_begin_194 (by decide) ?_
              refine lv_icmp_ne (tgt := 206) hx hb dX3_begin_195 (by decide) (fun _ => ?_) (fun c_195 => absurd c_195 c_125)
              refine lv_iload hx hb dX3_begin_206 (lv_at hl 0 rfl) ?_
              refine lv_aload_n hx hb dX3_begin_208 rfl (lv_at hl 2 rfl) ?_
              refine va_get (D := D) (ci := 2) (v := .ref (am 7)) (C := RX3) (T := TX3) (N := 19) hx hb hts hinM hown hK T.1 0 rfl rfl 10 (by decide) (hts _ (List.mem_cons_of_mem _ k3_f32)) (fun _ h9 => h9) rfl dX3_begin_209 ?_
              refine lv_iload_n hx hb dX3_begin_212 rfl (lv_at hl 3 rfl) ?_
              have h_213 : vp_in x1 32 := (mx_in (hg_up (by decide) hG) c_10)
              refine va_iald hx hb hK T.1 8 8 rfl rfl h_213 dX3_begin_213 ?_
              refine W.eq (g2 := F0 m 214 ls [.int ((up2 (up2 (up2 (up2 S x1.toNatClampNeg 8 x2) x1.toNatClampNeg 10 0) x1.toNatClampNeg 9 1) x1.toNatClampNeg 12 ((up2 (up2 (up2 S x1.toNatClampNeg 8 x2) x1.toNatClampNeg 10 0) x1.toNatClampNeg 9 1) x1.toNatClampNeg 6)) x1.toNatClampNeg 7), .int (sm_highFloor (up2 (up2 (up2 (up2 S x1.toNatClampNeg 8 x2) x1.toNatClampNeg 10 0) x1.toNatClampNeg 9 1) x1.toNatClampNeg 12 ((up2 (up2 (up2 S x1.toNatClampNeg 8 x2) x1.toNatClampNeg 10 0) x1.toNatClampNeg 9 1) x1.toNatClampNeg 6)) B n x1), .int x1, .ref (am 11)]) rfl ?_
              refine lv_icmp_ge (tgt := 222) hx hb dX3_begin_214 (by decide) (fun c_214 => ?_) (fun c_214 => ?_)
              · skip
                refine lv_aload_n hx hb dX3_begin_222 rfl (lv_at hl 2 rfl) ?_
                refine va_get (D := D) (ci := 2) (v := .ref (am 7)) (C := RX3) (T := TX3) (N := 19) hx hb hts hinM hown hK T.1 0 rfl rfl 10 (by decide) (hts _ (List.mem_cons_of_mem _ k3_f32)) (fun _ h9 => h9) rfl dX3_begin_223 ?_
                refine lv_iload_n hx hb dX3_begin_226 rfl (lv_at hl 3 rfl) ?_
                have h_227 : vp_in x1 32 := (mx_in (hg_up (by decide) hG) c_10)
                refine va_iald hx hb hK T.1 8 8 rfl rfl h_227 dX3_begin_227 ?_
                refine W.eq (g2 := F0 m 228 ls [.int ((up2 (up2 (up2 (up2 S x1.toNatClampNeg 8 x2) x1.toNatClampNeg 10 0) x1.toNatClampNeg 9 1) x1.toNatClampNeg 12 ((up2 (up2 (up2 S x1.toNatClampNeg 8 x2) x1.toNatClampNeg 10 0) x1.toNatClampNeg 9 1) x1.toNatClampNeg 6)) x1.toNatClampNeg 7), .int x1, .ref (am 11)]) rfl ?_
                have h_228 : vp_in x1 32 := (mx_in (hg_up (by decide) hG) c_10)
                refine va_iast (x := (up2 (up2 (up2 (up2 S x1.toNatClampNeg 8 x2) x1.toNatClampNeg 10 0) x1.toNatClampNeg 9 1) x1.toNatClampNeg 12 ((up2 (up2 (up2 S x1.toNatClampNeg 8 x2) x1.toNatClampNeg 10 0) x1.toNatClampNeg 9 1) x1.toNatClampNeg 6)) x1.toNatClampNeg 7) hx hb hK T.1 T.2.1 T.2.2 12 12 rfl rfl h_228 dX3_begin_228 (fun H locs hP hD hS => ?_)
                have T := md_set11 (i := x1.toNatClampNeg) (v := (up2 (up2 (up2 (up2 S x1.toNatClampNeg 8 x2) x1.toNatClampNeg 10 0) x1.toNatClampNeg 9 1) x1.toNatClampNeg 12 ((up2 (up2 (up2 S x1.toNatClampNeg 8 x2) x1.toNatClampNeg 10 0) x1.toNatClampNeg 9 1) x1.toNatClampNeg 6)) x1.toNatClampNeg 7) ⟨hP, hD, hS⟩
                refine lv_iconst (v := 1) hx hb dX3_begin_229 (by decide) ?_
                have e9 : sm_begin G S B n x1 x2 = (1, upd G 3 0, up2 (up2 (up2 (up2 (up2 S x1.toNatClampNeg 8 x2) x1.toNatClampNeg 10 0) x1.toNatClampNeg 9 1) x1.toNatClampNeg 12 ((up2 (up2 (up2 S x1.toNatClampNeg 8 x2) x1.toNatClampNeg 10 0) x1.toNatClampNeg 9 1) x1.toNatClampNeg 6)) x1.toNatClampNeg 11 ((up2 (up2 (up2 (up2 S x1.toNatClampNeg 8 x2) x1.toNatClampNeg 10 0) x1.toNatClampNeg 9 1) x1.toNatClampNeg 12 ((up2 (up2 (up2 S x1.toNatClampNeg 8 x2) x1.toNatClampNeg 10 0) x1.toNatClampNeg 9 1) x1.toNatClampNeg 6)) x1.toNatClampNeg 7)) := by unfold sm_begin; simp only [if_neg c_10, if_neg c_14, if_pos c_19, if_pos c_30, if_neg c_125, if_neg c_167, if_pos c_214]
                exact hw_iret C T (by decide) (by rw [e9]) (by rw [e9]) dX3_begin_230
              · skip
                refine lv_iload hx hb dX3_begin_217 (lv_at hl 0 rfl) ?_
                refine lv_goto (tgt := 228) hx hb dX3_begin_219 (by decide) ?_
                have h_228 : vp_in x1 32 := (mx_in (hg_up (by decide) hG) c_10)
                refine va_iast (x := sm_highFloor (up2 (up2 (up2 (up2 S x1.toNatClampNeg 8 x2) x1.toNatClampNeg 10 0) x1.toNatClampNeg 9 1) x1.toNatClampNeg 12 ((up2 (up2 (up2 S x1.toNatClampNeg 8 x2) x1.toNatClampNeg 10 0) x1.toNatClampNeg 9 1) x1.toNatClampNeg 6)) B n x1) hx hb hK T.1 T.2.1 T.2.2 12 12 rfl rfl h_228 dX3_begin_228 (fun H locs hP hD hS => ?_)
                have T := md_set11 (i := x1.toNatClampNeg) (v := sm_highFloor (up2 (up2 (up2 (up2 S x1.toNatClampNeg 8 x2) x1.toNatClampNeg 10 0) x1.toNatClampNeg 9 1) x1.toNatClampNeg 12 ((up2 (up2 (up2 S x1.toNatClampNeg 8 x2) x1.toNatClampNeg 10 0) x1.toNatClampNeg 9 1) x1.toNatClampNeg 6)) B n x1) ⟨hP, hD, hS⟩
                refine lv_iconst (v := 1) hx hb dX3_begin_229 (by decide) ?_
                have e9 : sm_begin G S B n x1 x2 = (1, upd G 3 0, up2 (up2 (up2 (up2 (up2 S x1.toNatClampNeg 8 x2) x1.toNatClampNeg 10 0) x1.toNatClampNeg 9 1) x1.toNatClampNeg 12 ((up2 (up2 (up2 S x1.toNatClampNeg 8 x2) x1.toNatClampNeg 10 0) x1.toNatClampNeg 9 1) x1.toNatClampNeg 6)) x1.toNatClampNeg 11 (sm_highFloor (up2 (up2 (up2 (up2 S x1.toNatClampNeg 8 x2) x1.toNatClampNeg 10 0) x1.toNatClampNeg 9 1) x1.toNatClampNeg 12 ((up2 (up2 (up2 S x1.toNatClampNeg 8 x2) x1.toNatClampNeg 10 0) x1.toNatClampNeg 9 1) x1.toNatClampNeg 6)) B n x1)) := by unfold sm_begin; simp only [if_neg c_10, if_neg c_14, if_pos c_19, if_pos c_30, if_neg c_125, if_neg c_167, if_neg c_214]
                exact hw_iret C T (by decide) (by rw [e9]) (by rw [e9]) dX3_begin_230
            · skip
              refine lv_iload_n hx hb dX3_begin_170 rfl (lv_at hl 1 rfl) ?_
              refine lv_aload_n hx hb dX3_begin_171 rfl (lv_at hl 2 rfl) ?_
              refine va_get (D := D) (ci := 2) (v := .ref (am 7)) (C := RX3) (T := TX3) (N := 19) hx hb hts hinM hown hK T.1 0 rfl rfl 10 (by decide) (hts _ (List.mem_cons_of_mem _ k3_f32)) (fun _ h9 => h9) rfl dX3_begin_172 ?_
              refine lv_iload_n hx hb dX3_begin_175 rfl (lv_at hl 3 rfl) ?_
              have h_176 : vp_in x1 32 := (mx_in (hg_up (by decide) hG) c_10)
              refine va_iald hx hb hK T.1 8 8 rfl rfl h_176 dX3_begin_176 ?_
              refine W.eq (g2 := F0 m 177 ls [.int ((up2 (up2 (up2 (up2 S x1.toNatClampNeg 8 x2) x1.toNatClampNeg 10 0) x1.toNatClampNeg 9 1) x1.toNatClampNeg 12 ((up2 (up2 (up2 S x1.toNatClampNeg 8 x2) x1.toNatClampNeg 10 0) x1.toNatClampNeg 9 1) x1.toNatClampNeg 6)) x1.toNatClampNeg 7), .int ((sm_lowCeiling (up2 (up2 (up2 (up2 S x1.toNatClampNeg 8 x2) x1.toNatClampNeg 10 0) x1.toNatClampNeg 9 1) x1.toNatClampNeg 12 ((up2 (up2 (up2 S x1.toNatClampNeg 8 x2) x1.toNatClampNeg 10 0) x1.toNatClampNeg 9 1) x1.toNatClampNeg 6)) B n x1) - 4), .int x1, .ref (am 11)]) rfl ?_
              refine lv_icmp_le (tgt := 184) hx hb dX3_begin_177 (by decide) (fun c_177 => ?_) (fun c_177 => ?_)
              · skip
                refine lv_aload_n hx hb dX3_begin_184 rfl (lv_at hl 2 rfl) ?_
                refine va_get (D := D) (ci := 2) (v := .ref (am 7)) (C := RX3) (T := TX3) (N := 19) hx hb hts hinM hown hK T.1 0 rfl rfl 10 (by decide) (hts _ (List.mem_cons_of_mem _ k3_f32)) (fun _ h9 => h9) rfl dX3_begin_185 ?_
                refine lv_iload_n hx hb dX3_begin_188 rfl (lv_at hl 3 rfl) ?_
                have h_189 : vp_in x1 32 := (mx_in (hg_up (by decide) hG) c_10)
                refine va_iald hx hb hK T.1 8 8 rfl rfl h_189 dX3_begin_189 ?_
                refine W.eq (g2 := F0 m 190 ls [.int ((up2 (up2 (up2 (up2 S x1.toNatClampNeg 8 x2) x1.toNatClampNeg 10 0) x1.toNatClampNeg 9 1) x1.toNatClampNeg 12 ((up2 (up2 (up2 S x1.toNatClampNeg 8 x2) x1.toNatClampNeg 10 0) x1.toNatClampNeg 9 1) x1.toNatClampNeg 6)) x1.toNatClampNeg 7), .int x1, .ref (am 11)]) rfl ?_
                refine lv_goto (tgt := 228) hx hb dX3_begin_190 (by decide) ?_
                have h_228 : vp_in x1 32 := (mx_in (hg_up (by decide) hG) c_10)
                refine va_iast (x := (up2 (up2 (up2 (up2 S x1.toNatClampNeg 8 x2) x1.toNatClampNeg 10 0) x1.toNatClampNeg 9 1) x1.toNatClampNeg 12 ((up2 (up2 (up2 S x1.toNatClampNeg 8 x2) x1.toNatClampNeg 10 0) x1.toNatClampNeg 9 1) x1.toNatClampNeg 6)) x1.toNatClampNeg 7) hx hb hK T.1 T.2.1 T.2.2 12 12 rfl rfl h_228 dX3_begin_228 (fun H locs hP hD hS => ?_)
                have T := md_set11 (i := x1.toNatClampNeg) (v := (up2 (up2 (up2 (up2 S x1.toNatClampNeg 8 x2) x1.toNatClampNeg 10 0) x1.toNatClampNeg 9 1) x1.toNatClampNeg 12 ((up2 (up2 (up2 S x1.toNatClampNeg 8 x2) x1.toNatClampNeg 10 0) x1.toNatClampNeg 9 1) x1.toNatClampNeg 6)) x1.toNatClampNeg 7) ⟨hP, hD, hS⟩
                refine lv_iconst (v := 1) hx hb dX3_begin_229 (by decide) ?_
                have e9 : sm_begin G S B n x1 x2 = (1, upd G 3 0, up2 (up2 (up2 (up2 (up2 S x1.toNatClampNeg 8 x2) x1.toNatClampNeg 10 0) x1.toNatClampNeg 9 1) x1.toNatClampNeg 12 ((up2 (up2 (up2 S x1.toNatClampNeg 8 x2) x1.toNatClampNeg 10 0) x1.toNatClampNeg 9 1) x1.toNatClampNeg 6)) x1.toNatClampNeg 11 ((up2 (up2 (up2 (up2 S x1.toNatClampNeg 8 x2) x1.toNatClampNeg 10 0) x1.toNatClampNeg 9 1) x1.toNatClampNeg 12 ((up2 (up2 (up2 S x1.toNatClampNeg 8 x2) x1.toNatClampNeg 10 0) x1.toNatClampNeg 9 1) x1.toNatClampNeg 6)) x1.toNatClampNeg 7)) := by unfold sm_begin; simp only [if_neg c_10, if_neg c_14, if_pos c_19, if_pos c_30, if_neg c_125, if_pos c_167, if_pos c_177]
                exact hw_iret C T (by decide) (by rw [e9]) (by rw [e9]) dX3_begin_230
              · skip
                refine lv_iload_n hx hb dX3_begin_180 rfl (lv_at hl 1 rfl) ?_
                refine lv_goto (tgt := 228) hx hb dX3_begin_181 (by decide) ?_
                have h_228 : vp_in x1 32 := (mx_in (hg_up (by decide) hG) c_10)
                refine va_iast (x := (sm_lowCeiling (up2 (up2 (up2 (up2 S x1.toNatClampNeg 8 x2) x1.toNatClampNeg 10 0) x1.toNatClampNeg 9 1) x1.toNatClampNeg 12 ((up2 (up2 (up2 S x1.toNatClampNeg 8 x2) x1.toNatClampNeg 10 0) x1.toNatClampNeg 9 1) x1.toNatClampNeg 6)) B n x1) - 4) hx hb hK T.1 T.2.1 T.2.2 12 12 rfl rfl h_228 dX3_begin_228 (fun H locs hP hD hS => ?_)
                have T := md_set11 (i := x1.toNatClampNeg) (v := (sm_lowCeiling (up2 (up2 (up2 (up2 S x1.toNatClampNeg 8 x2) x1.toNatClampNeg 10 0) x1.toNatClampNeg 9 1) x1.toNatClampNeg 12 ((up2 (up2 (up2 S x1.toNatClampNeg 8 x2) x1.toNatClampNeg 10 0) x1.toNatClampNeg 9 1) x1.toNatClampNeg 6)) B n x1) - 4) ⟨hP, hD, hS⟩
                refine lv_iconst (v := 1) hx hb dX3_begin_229 (by decide) ?_
                have e9 : sm_begin G S B n x1 x2 = (1, upd G 3 0, up2 (up2 (up2 (up2 (up2 S x1.toNatClampNeg 8 x2) x1.toNatClampNeg 10 0) x1.toNatClampNeg 9 1) x1.toNatClampNeg 12 ((up2 (up2 (up2 S x1.toNatClampNeg 8 x2) x1.toNatClampNeg 10 0) x1.toNatClampNeg 9 1) x1.toNatClampNeg 6)) x1.toNatClampNeg 11 ((sm_lowCeiling (up2 (up2 (up2 (up2 S x1.toNatClampNeg 8 x2) x1.toNatClampNeg 10 0) x1.toNatClampNeg 9 1) x1.toNatClampNeg 12 ((up2 (up2 (up2 S x1.toNatClampNeg 8 x2) x1.toNatClampNeg 10 0) x1.toNatClampNeg 9 1) x1.toNatClampNeg 6)) B n x1) - 4)) := by unfold sm_begin; simp only [if_neg c_10, if_neg c_14, if_pos c_19, if_pos c_30, if_neg c_125, if_pos c_167, if_neg c_177]
                exact hw_iret C T (by decide) (by rw [e9]) (by rw [e9]) dX3_begin_230
          · skip
            refine lv_iconst (v := (-1)) hx hb dX3_begin_128 (by decide) ?_
            refine lv_goto (tgt := 133) hx hb dX3_begin_129 (by decide) ?_
            have h_133 : vp_in x1 32 := (mx_in (hg_up (by decide) hG) c_10)
            refine va_iast (x := (-1)) hx hb hK T.1 T.2.1 T.2.2 10 10 rfl rfl h_133 dX3_begin_133 (fun H locs hP hD hS => ?_)
            have T := md_set9 (i := x1.toNatClampNeg) (v := (-1)) ⟨hP, hD, hS⟩
            refine lv_aload_n hx hb dX3_begin_134 rfl (lv_at hl 0 rfl) ?_
            refine va_get (D := D) (ci := 2) (v := .ref (am 12)) (C := RX3) (T := TX3) (N := 19) hx hb hts hinM hown hK T.1 0 rfl rfl 15 (by decide) (hts _ (List.mem_cons_of_mem _ k3_f47)) (fun _ h9 => h9) rfl dX3_begin_135 ?_
            refine lv_iload_n hx hb dX3_begin_138 rfl (lv_at hl 1 rfl) ?_
            refine lv_aload_n hx hb dX3_begin_139 rfl (lv_at hl 0 rfl) ?_
            refine va_get (D := D) (ci := 2) (v := .ref (am 6)) (C := RX3) (T := TX3) (N := 19) hx hb hts hinM hown hK T.1 0 rfl rfl 9 (by decide) (hts _ (List.mem_cons_of_mem _ k3_f29)) (fun _ h9 => h9) rfl dX3_begin_140 ?_
            refine lv_iload_n hx hb dX3_begin_143 rfl (lv_at hl 1 rfl) ?_
            have h_144 : vp_in x1 32 := (mx_in (hg_up (by decide) hG) c_10)
            refine va_iald hx hb hK T.1 7 7 rfl rfl h_144 dX3_begin_144 ?_
            refine W.eq (g2 := F0 m 145 ls [.int ((up2 (up2 (up2 S x1.toNatClampNeg 8 x2) x1.toNatClampNeg 10 0) x1.toNatClampNeg 9 (-1)) x1.toNatClampNeg 6), .int x1, .ref (am 12)]) rfl ?_
            have h_145 : vp_in x1 32 := (mx_in (hg_up (by decide) hG) c_10)
            refine va_iast (x := (up2 (up2 (up2 S x1.toNatClampNeg 8 x2) x1.toNatClampNeg 10 0) x1.toNatClampNeg 9 (-1)) x1.toNatClampNeg 6) hx hb hK T.1 T.2.1 T.2.2 13 13 rfl rfl h_145 dX3_begin_145 (fun H locs hP hD hS => ?_)
            have T := md_set12 (i := x1.toNatClampNeg) (v := (up2 (up2 (up2 S x1.toNatClampNeg 8 x2) x1.toNatClampNeg 10 0) x1.toNatClampNeg 9 (-1)) x1.toNatClampNeg 6) ⟨hP, hD, hS⟩
            refine lv_aload_n hx hb dX3_begin_146 rfl (lv_at hl 0 rfl) ?_
            refine lv_iload_n hx hb dX3_begin_147 rfl (lv_at hl 1 rfl) ?_
            refine hw_Vi (As := [.int x1]) (rest := []) C T (c_M_lowCeiling (mx_in (hg_up (by decide) hG) c_10) (hg_up (by decide) hG)) (cwV 1 hts (x3_in k3_m77 k3_i_lowCeiling k3_s_lowCeiling k3_ini k3_c_lowCeiling) rfl rfl rfl (by decide +kernel) ⟨Nat.le_of_ble_eq_true rfl, Nat.le_of_ble_eq_true rfl⟩) md_isO md_ad rfl hl.1 rfl (Nat.le_of_ble_eq_true rfl) dX3_begin_148 ⟨Nat.zero_le _, Nat.zero_le _⟩ (fun H locs T => ?_)
            refine lv_iconst (v := 4) hx hb dX3_begin_151 (by decide) ?_
            refine lv_isub hx hb dX3_begin_152 ?_
            refine lv_istore_n (lv' := [(3, .int ((sm_lowCeiling (up2 (up2 (up2 (up2 S x1.toNatClampNeg 8 x2) x1.toNatClampNeg 10 0) x1.toNatClampNeg 9 (-1)) x1.toNatClampNeg 12 ((up2 (up2 (up2 S x1.toNatClampNeg 8 x2) x1.toNatClampNeg 10 0) x1.toNatClampNeg 9 (-1)) x1.toNatClampNeg 6)) B n x1) - 4)), (0, .ref o), (1, .int x1), (2, .int x2)]) hx hb dX3_begin_153 rfl hl (by decide) rfl (fun ls hl => ?_)
            refine lv_aload_n hx hb dX3_begin_154 rfl (lv_at hl 1 rfl) ?_
            refine lv_iload_n hx hb dX3_begin_155 rfl (lv_at hl 2 rfl) ?_
            refine hw_Vi (As := [.int x1]) (rest := []) C T (c_M_highFloor (mx_in (hg_up (by decide) hG) c_10) (hg_up (by decide) hG)) (cwV 1 hts (x3_in k3_m81 k3_i_highFloor k3_s_highFloor k3_ini k3_c_highFloor) rfl rfl rfl (by decide +kernel) ⟨Nat.le_of_ble_eq_true rfl, Nat.le_of_ble_eq_true rfl⟩) md_isO md_ad rfl hl.1 rfl (Nat.le_of_ble_eq_true rfl) dX3_begin_156 ⟨Nat.zero_le _, Nat.zero_le _⟩ (fun H locs T => ?_)
            refine lv_istore (lv' := [(4, .int (sm_highFloor (up2 (up2 (up2 (up2 S x1.toNatClampNeg 8 x2) x1.toNatClampNeg 10 0) x1.toNatClampNeg 9 (-1)) x1.toNatClampNeg 12 ((up2 (up2 (up2 S x1.toNatClampNeg 8 x2) x1.toNatClampNeg 10 0) x1.toNatClampNeg 9 (-1)) x1.toNatClampNeg 6)) B n x1)), (3, .int ((sm_lowCeiling (up2 (up2 (up2 (up2 S x1.toNatClampNeg 8 x2) x1.toNatClampNeg 10 0) x1.toNatClampNeg 9 (-1)) x1.toNatClampNeg 12 ((up2 (up2 (up2 S x1.toNatClampNeg 8 x2) x1.toNatClampNeg 10 0) x1.toNatClampNeg 9 (-1)) x1.toNatClampNeg 6)) B n x1) - 4)), (0, .ref o), (1, .int x1), (2, .int x2)]) hx hb dX3_begin_159 hl (by decide) rfl (fun ls hl => ?_)
            refine lv_aload_n hx hb dX3_begin_161 rfl (lv_at hl 2 rfl) ?_
            refine va_get (D := D) (ci := 2) (v := .ref (am 11)) (C := RX3) (T := TX3) (N := 19) hx hb hts hinM hown hK T.1 0 rfl rfl 14 (by decide) (hts _ (List.mem_cons_of_mem _ k3_f44)) (fun _ h9 => h9) rfl dX3_begin_162 ?_
            refine lv_iload_n hx hb dX3_begin_165 rfl (lv_at hl 3 rfl) ?_
            refine lv_iload_n hx hb dX3_begin_166 rfl (lv_at hl 4 rfl) ?_
            refine lv_if_ne (tgt := 193) hx hb dX3_begin_167 (by decide) (fun c_167 => ?_) (fun c_167 => ?_)
            · skip
              refine lv_iload_n hx hb dX3_begin_193 rfl (lv_at hl 4 rfl) ?_
              refine lv_iconst (v := 1) hx hb dX3_begin_194 (by decide) ?_
              refine lv_icmp_ne (tgt := 206) hx hb dX3_begin_195 (by decide) (fun c_195 => absurd c_125 c_195) (fun _ => ?_)
              refine lv_aload_n hx hb dX3_begin_198 rfl (lv_at hl 2 rfl) ?_
              refine lv_iload_n hx hb dX3_begin_199 rfl (lv_at hl 3 rfl) ?_
              refine hw_Vi (As := [.int x1]) (rest := [.int x1, .ref (am 11)]) C T (c_M_lowFloor (mx_in (hg_up (by decide) hG) c_10) (hg_up (by decide) hG)) (cwV 1 hts (x3_in k3_m84 k3_i_lowFloor k3_s_lowFloor k3_ini k3_c_lowFloor) rfl rfl rfl (by decide +kernel) ⟨Nat.le_of_ble_eq_true rfl, Nat.le_of_ble_eq_true rfl⟩) md_isO md_ad rfl hl.1 rfl (Nat.le_of_ble_eq_true rfl) dX3_begin_200 ⟨Nat.zero_le _, Nat.zero_le _⟩ (fun H locs T => ?_)
              refine lv_goto (tgt := 228) hx hb dX3_begin_203 (by decide) ?_
              have h_228 : vp_in x1 32 := (mx_in (hg_up (by decide) hG) c_10)
              refine va_iast (x := sm_lowFloor (up2 (up2 (up2 (up2 S x1.toNatClampNeg 8 x2) x1.toNatClampNeg 10 0) x1.toNatClampNeg 9 (-1)) x1.toNatClampNeg 12 ((up2 (up2 (up2 S x1.toNatClampNeg 8 x2) x1.toNatClampNeg 10 0) x1.toNatClampNeg 9 (-1)) x1.toNatClampNeg 6)) B n x1) hx hb hK T.1 T.2.1 T.2.2 12 12 rfl rfl h_228 dX3_begin_228 (fun H locs hP hD hS => ?_)
              have T := md_set11 (i := x1.toNatClampNeg) (v := sm_lowFloor (up2 (up2 (up2 (up2 S x1.toNatClampNeg 8 x2) x1.toNatClampNeg 10 0) x1.toNatClampNeg 9 (-1)) x1.toNatClampNeg 12 ((up2 (up2 (up2 S x1.toNatClampNeg 8 x2) x1.toNatClampNeg 10 0) x1.toNatClampNeg 9 (-1)) x1.toNatClampNeg 6)) B n x1) ⟨hP, hD, hS⟩
              refine lv_iconst (v := 1) hx hb dX3_begin_229 (by decide) ?_
              have e9 : sm_begin G S B n x1 x2 = (1, upd G 3 0, up2 (up2 (up2 (up2 (up2 S x1.toNatClampNeg 8 x2) x1.toNatClampNeg 10 0) x1.toNatClampNeg 9 (-1)) x1.toNatClampNeg 12 ((up2 (up2 (up2 S x1.toNatClampNeg 8 x2) x1.toNatClampNeg 10 0) x1.toNatClampNeg 9 (-1)) x1.toNatClampNeg 6)) x1.toNatClampNeg 11 (sm_lowFloor (up2 (up2 (up2 (up2 S x1.toNatClampNeg 8 x2) x1.toNatClampNeg 10 0) x1.toNatClampNeg 9 (-1)) x1.toNatClampNeg 12 ((up2 (up2 (up2 S x1.toNatClampNeg 8 x2) x1.toNatClampNeg 10 0) x1.toNatClampNeg 9 (-1)) x1.toNatClampNeg 6)) B n x1)) := by unfold sm_begin; simp only [if_neg c_10, if_neg c_14, if_pos c_19, if_pos c_30, if_pos c_125, if_neg c_167]
              exact hw_iret C T (by decide) (by rw [e9]) (by rw [e9]) dX3_begin_230
            · skip
              refine lv_iload_n hx hb dX3_begin_170 rfl (lv_at hl 1 rfl) ?_
              refine lv_aload_n hx hb dX3_begin_171 rfl (lv_at hl 2 rfl) ?_
              refine va_get (D := D) (ci := 2) (v := .ref (am 7)) (C := RX3) (T := TX3) (N := 19) hx hb hts hinM hown hK T.1 0 rfl rfl 10 (by decide) (hts _ (List.mem_cons_of_mem _ k3_f32)) (fun _ h9 => h9) rfl dX3_begin_172 ?_
              refine lv_iload_n hx hb dX3_begin_175 rfl (lv_at hl 3 rfl) ?_
              have h_176 : vp_in x1 32 := (mx_in (hg_up (by decide) hG) c_10)
              refine va_iald hx hb hK T.1 8 8 rfl rfl h_176 dX3_begin_176 ?_
              refine W.eq (g2 := F0 m 177 ls [.int ((up2 (up2 (up2 (up2 S x1.toNatClampNeg 8 x2) x1.toNatClampNeg 10 0) x1.toNatClampNeg 9 (-1)) x1.toNatClampNeg 12 ((up2 (up2 (up2 S x1.toNatClampNeg 8 x2) x1.toNatClampNeg 10 0) x1.toNatClampNeg 9 (-1)) x1.toNatClampNeg 6)) x1.toNatClampNeg 7), .int ((sm_lowCeiling (up2 (up2 (up2 (up2 S x1.toNatClampNeg 8 x2) x1.toNatClampNeg 10 0) x1.toNatClampNeg 9 (-1)) x1.toNatClampNeg 12 ((up2 (up2 (up2 S x1.toNatClampNeg 8 x2) x1.toNatClampNeg 10 0) x1.toNatClampNeg 9 (-1)) x1.toNatClampNeg 6)) B n x1) - 4), .int x1, .ref (am 11)]) rfl ?_
              refine lv_icmp_le (tgt := 184) hx hb dX3_begin_177 (by decide) (fun c_177 => ?_) (fun c_177 => ?_)
              · skip
                refine lv_aload_n hx hb dX3_begin_184 rfl (lv_at hl 2 rfl) ?_
                refine va_get (D := D) (ci := 2) (v := .ref (am 7)) (C := RX3) (T := TX3) (N := 19) hx hb hts hinM hown hK T.1 0 rfl rfl 10 (by decide) (hts _ (List.mem_cons_of_mem _ k3_f32)) (fun _ h9 => h9) rfl dX3_begin_185 ?_
                refine lv_iload_n hx hb dX3_begin_188 rfl (lv_at hl 3 rfl) ?_
                have h_189 : vp_in x1 32 := (mx_in (hg_up (by decide) hG) c_10)
                refine va_iald hx hb hK T.1 8 8 rfl rfl h_189 dX3_begin_189 ?_
                refine W.eq (g2 := F0 m 190 ls [.int ((up2 (up2 (up2 (up2 S x1.toNatClampNeg 8 x2) x1.toNatClampNeg 10 0) x1.toNatClampNeg 9 (-1)) x1.toNatClampNeg 12 ((up2 (up2 (up2 S x1.toNatClampNeg 8 x2) x1.toNatClampNeg 10 0) x1.toNatClampNeg 9 (-1)) x1.toNatClampNeg 6)) x1.toNatClampNeg 7), .int x1, .ref (am 11)]) rfl ?_
                refine lv_goto (tgt := 228) hx hb dX3_begin_190 (by decide) ?_
                have h_228 : vp_in x1 32 := (mx_in (hg_up (by decide) hG) c_10)
                refine va_iast (x := (up2 (up2 (up2 (up2 S x1.toNatClampNeg 8 x2) x1.toNatClampNeg 10 0) x1.toNatClampNeg 9 (-1)) x1.toNatClampNeg 12 ((up2 (up2 (up2 S x1.toNatClampNeg 8 x2) x1.toNatClampNeg 10 0) x1.toNatClampNeg 9 (-1)) x1.toNatClampNeg 6)) x1.toNatClampNeg 7) hx hb hK T.1 T.2.1 T.2.2 12 12 rfl rfl h_228 dX3_begin_228 (fun H locs hP hD hS => ?_)
                have T := md_set11 (i := x1.toNatClampNeg) (v := (up2 (up2 (up2 (up2 S x1.toNatClampNeg 8 x2) x1.toNatClampNeg 10 0) x1.toNatClampNeg 9 (-1)) x1.toNatClampNeg 12 ((up2 (up2 (up2 S x1.toNatClampNeg 8 x2) x1.toNatClampNeg 10 0) x1.toNatClampNeg 9 (-1)) x1.toNatClampNeg 6)) x1.toNatClampNeg 7) ⟨hP, hD, hS⟩
                refine lv_iconst (v := 1) hx hb dX3_begin_229 (by decide) ?_
                have e9 : sm_begin G S B n x1 x2 = (1, upd G 3 0, up2 (up2 (up2 (up2 (up2 S x1.toNatClampNeg 8 x2) x1.toNatClampNeg 10 0) x1.toNatClampNeg 9 (-1)) x1.toNatClampNeg 12 ((up2 (up2 (up2 S x1.toNatClampNeg 8 x2) x1.toNatClampNeg 10 0) x1.toNatClampNeg 9 (-1)) x1.toNatClampNeg 6)) x1.toNatClampNeg 11 ((up2 (up2 (up2 (up2 S x1.toNatClampNeg 8 x2) x1.toNatClampNeg 10 0) x1.toNatClampNeg 9 (-1)) x1.toNatClampNeg 12 ((up2 (up2 (up2 S x1.toNatClampNeg 8 x2) x1.toNatClampNeg 10 0) x1.toNatClampNeg 9 (-1)) x1.toNatClampNeg 6)) x1.toNatClampNeg 7)) := by unfold sm_begin; simp only [if_neg c_10, if_neg c_14, if_pos c_19, if_pos c_30, if_pos c_125, if_pos c_167, if_pos c_177]
                exact hw_iret C T (by decide) (by rw [e9]) (by rw [e9]) dX3_begin_230
              · skip
                refine lv_iload_n hx hb dX3_begin_180 rfl (lv_at hl 1 rfl) ?_
                refine lv_goto (tgt := 228) hx hb dX3_begin_181 (by decide) ?_
                have h_228 : vp_in x1 32 := (mx_in (hg_up (by decide) hG) c_10)
                refine va_iast (x := (sm_lowCeiling (up2 (up2 (up2 (up2 S x1.toNatClampNeg 8 x2) x1.toNatClampNeg 10 0) x1.toNatClampNeg 9 (-1)) x1.toNatClampNeg 12 ((up2 (up2 (up2 S x1.toNatClampNeg 8 x2) x1.toNatClampNeg 10 0) x1.toNatClampNeg 9 (-1)) x1.toNatClampNeg 6)) B n x1) - 4) hx hb hK T.1 T.2.1 T.2.2 12 12 rfl rfl h_228 dX3_begin_228 (fun H locs hP hD hS => ?_)
                have T := md_set11 (i := x1.toNatClampNeg) (v := (sm_lowCeiling (up2 (up2 (up2 (up2 S x1.toNatClampNeg 8 x2) x1.toNatClampNeg 10 0) x1.toNatClampNeg 9 (-1)) x1.toNatClampNeg 12 ((up2 (up2 (up2 S x1.toNatClampNeg 8 x2) x1.toNatClampNeg 10 0) x1.toNatClampNeg 9 (-1)) x1.toNatClampNeg 6)) B n x1) - 4) ⟨hP, hD, hS⟩
                refine lv_iconst (v := 1) hx hb dX3_begin_229 (by decide) ?_
                have e9 : sm_begin G S B n x1 x2 = (1, upd G 3 0, up2 (up2 (up2 (up2 (up2 S x1.toNatClampNeg 8 x2) x1.toNatClampNeg 10 0) x1.toNatClampNeg 9 (-1)) x1.toNatClampNeg 12 ((up2 (up2 (up2 S x1.toNatClampNeg 8 x2) x1.toNatClampNeg 10 0) x1.toNatClampNeg 9 (-1)) x1.toNatClampNeg 6)) x1.toNatClampNeg 11 ((sm_lowCeiling (up2 (up2 (up2 (up2 S x1.toNatClampNeg 8 x2) x1.toNatClampNeg 10 0) x1.toNatClampNeg 9 (-1)) x1.toNatClampNeg 12 ((up2 (up2 (up2 S x1.toNatClampNeg 8 x2) x1.toNatClampNeg 10 0) x1.toNatClampNeg 9 (-1)) x1.toNatClampNeg 6)) B n x1) - 4)) := by unfold sm_begin; simp only [if_neg c_10, if_neg c_14, if_pos c_19, if_pos c_30, if_pos c_125, if_pos c_167, if_neg c_177]
                exact hw_iret C T (by decide) (by rw [e9]) (by rw [e9]) dX3_begin_230
        · skip
          refine lv_iload_n hx hb dX3_begin_33 rfl (lv_at hl 2 rfl) ?_
          refine lv_if_ne (tgt := 60) hx hb dX3_begin_34 (by decide) (fun c_34 => ?_) (fun c_34 => ?_)
          · skip
            refine lv_iconst (v := 0) hx hb dX3_begin_60 (by decide) ?_
            refine lv_istore_n (lv' := [(3, .int 0), (0, .ref o), (1, .int x1), (2, .int x2)]) hx hb dX3_begin_61 rfl hl (by decide) rfl (fun ls hl => ?_)
            refine lv_aload_n hx hb dX3_begin_62 rfl (lv_at hl 1 rfl) ?_
            refine va_get (D := D) (ci := 2) (v := .ref (am 9)) (C := RX3) (T := TX3) (N := 19) hx hb hts hinM hown hK T.1 0 rfl rfl 12 (by decide) (hts _ (List.mem_cons_of_mem _ k3_f38)) (fun _ h9 => h9) rfl dX3_begin_63 ?_
            refine lv_iload_n hx hb dX3_begin_66 rfl (lv_at hl 2 rfl) ?_
            refine lv_iload_n hx hb dX3_begin_67 rfl (lv_at hl 0 rfl) ?_
            refine lv_if_eq (tgt := 75) hx hb dX3_begin_68 (by decide) (fun _ => ?_) (fun c_68 => absurd c_68 (by decide))
            refine lv_aload_n hx hb dX3_begin_75 rfl (lv_at hl 1 rfl) ?_
            refine va_get (D := D) (ci := 2) (v := .ref (am 9)) (C := RX3) (T := TX3) (N := 19) hx hb hts hinM hown hK T.1 0 rfl rfl 12 (by decide) (hts _ (List.mem_cons_of_mem _ k3_f38)) (fun _ h9 => h9) rfl dX3_begin_76 ?_
            refine lv_iload_n hx hb dX3_begin_79 rfl (lv_at hl 2 rfl) ?_
            have h_80 : vp_in x1 32 := (mx_in (hg_up (by decide) hG) c_10)
            refine va_iald hx hb hK T.1 10 10 rfl rfl h_80 dX3_begin_80 ?_
            refine W.eq (g2 := F0 m 81 ls [.int (S x1.toNatClampNeg 9), .int x1, .ref (am 9)]) rfl ?_
            have h_81 : vp_in x1 32 := (mx_in (hg_up (by decide) hG) c_10)
            refine va_iast (x := S x1.toNatClampNeg 9) hx hb hK T.1 T.2.1 T.2.2 10 10 rfl rfl h_81 dX3_begin_81 (fun H locs hP hD hS => ?_)
            have T := md_set9 (i := x1.toNatClampNeg) (v := S x1.toNatClampNeg 9) ⟨hP, hD, hS⟩
            refine lv_aload_n hx hb dX3_begin_82 rfl (lv_at hl 1 rfl) ?_
            refine va_get (D := D) (ci := 2) (v := .ref (am 10)) (C := RX3) (T := TX3) (N := 19) hx hb hts hinM hown hK T.1 0 rfl rfl 13 (by decide) (hts _ (List.mem_cons_of_mem _ k3_f41)) (fun _ h9 => h9) rfl dX3_begin_83 ?_
            refine lv_iload_n hx hb dX3_begin_86 rfl (lv_at hl 2 rfl) ?_
            refine lv_iload_n hx hb dX3_begin_87 rfl (lv_at hl 0 rfl) ?_
            refine lv_if_eq (tgt := 95) hx hb dX3_begin_88 (by decide) (fun _ => ?_) (fun c_88 => absurd c_88 (by decide))
            refine lv_aload_n hx hb dX3_begin_95 rfl (lv_at hl 1 rfl) ?_
            refine va_get (D := D) (ci := 2) (v := .ref (am 10)) (C := RX3) (T := TX3) (N := 19) hx hb hts hinM hown hK T.1 0 rfl rfl 13 (by decide) (hts _ (List.mem_cons_of_mem _ k3_f41)) (fun _ h9 => h9) rfl dX3_begin_96 ?_
            refine lv_iload_n hx hb dX3_begin_99 rfl (lv_at hl 2 rfl) ?_
            have h_100 : vp_in x1 32 := (mx_in (hg_up (by decide) hG) c_10)
            refine va_iald hx hb hK T.1 11 11 rfl rfl h_100 dX3_begin_100 ?_
            refine W.eq (g2 := F0 m 101 ls [.int ((up2 S x1.toNatClampNeg 9 (S x1.toNatClampNeg 9)) x1.toNatClampNeg 10), .int x1, .ref (am 10)]) rfl ?_
            have h_101 : vp_in x1 32 := (mx_in (hg_up (by decide) hG) c_10)
            refine va_iast (x := (up2 S x1.toNatClampNeg 9 (S x1.toNatClampNeg 9)) x1.toNatClampNeg 10) hx hb hK T.1 T.2.1 T.2.2 11 11 rfl rfl h_101 dX3_begin_101 (fun H locs hP hD hS => ?_)
            have T := md_set10 (i := x1.toNatClampNeg) (v := (up2 S x1.toNatClampNeg 9 (S x1.toNatClampNeg 9)) x1.toNatClampNeg 10) ⟨hP, hD, hS⟩
            refine lv_iload_n hx hb dX3_begin_102 rfl (lv_at hl 0 rfl) ?_
            have e9 : sm_begin G S B n x1 x2 = (0, upd G 3 0, up2 (up2 S x1.toNatClampNeg 9 (S x1.toNatClampNeg 9)) x1.toNatClampNeg 10 ((up2 S x1.toNatClampNeg 9 (S x1.toNatClampNeg 9)) x1.toNatClampNeg 10)) := by unfold sm_begin; simp only [if_neg c_10, if_neg c_14, if_pos c_19, if_neg c_30, if_neg c_34]
            exact hw_iret C T (by decide) (by rw [e9]) (by rw [e9]) dX3_begin_103
          · skip
            refine lv_aload_n hx hb dX3_begin_37 rfl (lv_at hl 0 rfl) ?_
            refine va_get (D := D) (ci := 2) (v := .ref (am 8)) (C := RX3) (T := TX3) (N := 19) hx hb hts hinM hown hK T.1 0 rfl rfl 11 (by decide) (hts _ (List.mem_cons_of_mem _ k3_f35)) (fun _ h9 => h9) rfl dX3_begin_38 ?_
            refine lv_iload_n hx hb dX3_begin_41 rfl (lv_at hl 1 rfl) ?_
            have h_42 : vp_in x1 32 := (mx_in (hg_up (by decide) hG) c_10)
            refine va_iald hx hb hK T.1 9 9 rfl rfl h_42 dX3_begin_42 ?_
            refine W.eq (g2 := F0 m 43 ls [.int (S x1.toNatClampNeg 8)]) rfl ?_
            refine lv_if_ne (tgt := 60) hx hb dX3_begin_43 (by decide) (fun c_43 => ?_) (fun c_43 => ?_)
            · skip
              refine lv_iconst (v := 0) hx hb dX3_begin_60 (by decide) ?_
              refine lv_istore_n (lv' := [(3, .int 0), (0, .ref o), (1, .int x1), (2, .int x2)]) hx hb dX3_begin_61 rfl hl (by decide) rfl (fun ls hl => ?_)
              refine lv_aload_n hx hb dX3_begin_62 rfl (lv_at hl 1 rfl) ?_
              refine va_get (D := D) (ci := 2) (v := .ref (am 9)) (C := RX3) (T := TX3) (N := 19) hx hb hts hinM hown hK T.1 0 rfl rfl 12 (by decide) (hts _ (List.mem_cons_of_mem _ k3_f38)) (fun _ h9 => h9) rfl dX3_begin_63 ?_
              refine lv_iload_n hx hb dX3_begin_66 rfl (lv_at hl 2 rfl) ?_
              refine lv_iload_n hx hb dX3_begin_67 rfl (lv_at hl 0 rfl) ?_
              refine lv_if_eq (tgt := 75) hx hb dX3_begin_68 (by decide) (fun _ => ?_) (fun c_68 => absurd c_68 (by decide))
              refine lv_aload_n hx hb dX3_begin_75 rfl (lv_at hl 1 rfl) ?_
              refine va_get (D := D) (ci := 2) (v := .ref (am 9)) (C := RX3) (T := TX3) (N := 19) hx hb hts hinM hown hK T.1 0 rfl rfl 12 (by decide) (hts _ (List.mem_cons_of_mem _ k3_f38)) (fun _ h9 => h9) rfl dX3_begin_76 ?_
              refine lv_iload_n hx hb dX3_begin_79 rfl (lv_at hl 2 rfl) ?_
              have h_80 : vp_in x1 32 := (mx_in (hg_up (by decide) hG) c_10)
              refine va_iald hx hb hK T.1 10 10 rfl rfl h_80 dX3_begin_80 ?_
              refine W.eq (g2 := F0 m 81 ls [.int (S x1.toNatClampNeg 9), .int x1, .ref (am 9)]) rfl ?_
              have h_81 : vp_in x1 32 := (mx_in (hg_up (by decide) hG) c_10)
              refine va_iast (x := S x1.toNatClampNeg 9) hx hb hK T.1 T.2.1 T.2.2 10 10 rfl rfl h_81 dX3_begin_81 (fun H locs hP hD hS => ?_)
              have T := md_set9 (i := x1.toNatClampNeg) (v := S x1.toNatClampNeg 9) ⟨hP, hD, hS⟩
              refine lv_aload_n hx hb dX3_begin_82 rfl (lv_at hl 1 rfl) ?_
              refine va_get (D := D) (ci := 2) (v := .ref (am 10)) (C := RX3) (T := TX3) (N := 19) hx hb hts hinM hown hK T.1 0 rfl rfl 13 (by decide) (hts _ (List.mem_cons_of_mem _ k3_f41)) (fun _ h9 => h9) rfl dX3_begin_83 ?_
              refine lv_iload_n hx hb dX3_begin_86 rfl (lv_at hl 2 rfl) ?_
              refine lv_iload_n hx hb dX3_begin_87 rfl (lv_at hl 0 rfl) ?_
              refine lv_if_eq (tgt := 95) hx hb dX3_begin_88 (by decide) (fun _ => ?_) (fun c_88 => absurd c_88 (by decide))
              refine lv_aload_n hx hb dX3_begin_95 rfl (lv_at hl 1 rfl) ?_
              refine va_get (D := D) (ci := 2) (v := .ref (am 10)) (C := RX3) (T := TX3) (N := 19) hx hb hts hinM hown hK T.1 0 rfl rfl 13 (by decide) (hts _ (List.mem_cons_of_mem _ k3_f41)) (fun _ h9 => h9) rfl dX3_begin_96 ?_
              refine lv_iload_n hx hb dX3_begin_99 rfl (lv_at hl 2 rfl) ?_
              have h_100 : vp_in x1 32 := (mx_in (hg_up (by decide) hG) c_10)
              refine va_iald hx hb hK T.1 11 11 rfl rfl h_100 dX3_begin_100 ?_
              refine W.eq (g2 := F0 m 101 ls [.int ((up2 S x1.toNatClampNeg 9 (S x1.toNatClampNeg 9)) x1.toNatClampNeg 10), .int x1, .ref (am 10)]) rfl ?_
              have h_101 : vp_in x1 32 := (mx_in (hg_up (by decide) hG) c_10)
              refine va_iast (x := (up2 S x1.toNatClampNeg 9 (S x1.toNatClampNeg 9)) x1.toNatClampNeg 10) hx hb hK T.1 T.2.1 T.2.2 11 11 rfl rfl h_101 dX3_begin_101 (fun H locs hP hD hS => ?_)
              have T := md_set10 (i := x1.toNatClampNeg) (v := (up2 S x1.toNatClampNeg 9 (S x1.toNatClampNeg 9)) x1.toNatClampNeg 10) ⟨hP, hD, hS⟩
              refine lv_iload_n hx hb dX3_begin_102 rfl (lv_at hl 0 rfl) ?_
              have e9 : sm_begin G S B n x1 x2 = (0, upd G 3 0, up2 (up2 S x1.toNatClampNeg 9 (S x1.toNatClampNeg 9)) x1.toNatClampNeg 10 ((up2 S x1.toNatClampNeg 9 (S x1.toNatClampNeg 9)) x1.toNatClampNeg 10)) := by unfold sm_begin; simp only [if_neg c_10, if_neg c_14, if_pos c_19, if_neg c_30, if_pos c_34, if_neg c_43]
              exact hw_iret C T (by decide) (by rw [e9]) (by rw [e9]) dX3_begin_103
            · skip
              refine lv_aload_n hx hb dX3_begin_46 rfl (lv_at hl 0 rfl) ?_
              refine va_get (D := D) (ci := 2) (v := .ref (am 9)) (C := RX3) (T := TX3) (N := 19) hx hb hts hinM hown hK T.1 0 rfl rfl 12 (by decide) (hts _ (List.mem_cons_of_mem _ k3_f38)) (fun _ h9 => h9) rfl dX3_begin_47 ?_
              refine lv_iload_n hx hb dX3_begin_50 rfl (lv_at hl 1 rfl) ?_
              have h_51 : vp_in x1 32 := (mx_in (hg_up (by decide) hG) c_10)
              refine va_iald hx hb hK T.1 10 10 rfl rfl h_51 dX3_begin_51 ?_
              refine W.eq (g2 := F0 m 52 ls [.int (S x1.toNatClampNeg 9)]) rfl ?_
              refine lv_iconst (v := 1) hx hb dX3_begin_52 (by decide) ?_
              refine lv_icmp_ge (tgt := 60) hx hb dX3_begin_53 (by decide) (fun c_53 => ?_) (fun c_53 => ?_)
              · skip
                refine lv_iconst (v := 0) hx hb dX3_begin_60 (by decide) ?_
                refine lv_istore_n (lv' := [(3, .int 0), (0, .ref o), (1, .int x1), (2, .int x2)]) hx hb dX3_begin_61 rfl hl (by decide) rfl (fun ls hl => ?_)
                refine lv_aload_n hx hb dX3_begin_62 rfl (lv_at hl 1 rfl) ?_
                refine va_get (D := D) (ci := 2) (v := .ref (am 9)) (C := RX3) (T := TX3) (N := 19) hx hb hts hinM hown hK T.1 0 rfl rfl 12 (by decide) (hts _ (List.mem_cons_of_mem _ k3_f38)) (fun _ h9 => h9) rfl dX3_begin_63 ?_
                refine lv_iload_n hx hb dX3_begin_66 rfl (lv_at hl 2 rfl) ?_
                refine lv_iload_n hx hb dX3_begin_67 rfl (lv_at hl 0 rfl) ?_
                refine lv_if_eq (tgt := 75) hx hb dX3_begin_68 (by decide) (fun _ => ?_) (fun c_68 => absurd c_68 (by decide))
                refine lv_aload_n hx hb dX3_begin_75 rfl (lv_at hl 1 rfl) ?_
                refine va_get (D := D) (ci := 2) (v := .ref (am 9)) (C := RX3) (T := TX3) (N := 19) hx hb hts hinM hown hK T.1 0 rfl rfl 12 (by decide) (hts _ (List.mem_cons_of_mem _ k3_f38)) (fun _ h9 => h9) rfl dX3_begin_76 ?_
                refine lv_iload_n hx hb dX3_begin_79 rfl (lv_at hl 2 rfl) ?_
                have h_80 : vp_in x1 32 := (mx_in (hg_up (by decide) hG) c_10)
                refine va_iald hx hb hK T.1 10 10 rfl rfl h_80 dX3_begin_80 ?_
                refine W.eq (g2 := F0 m 81 ls [.int (S x1.toNatClampNeg 9), .int x1, .ref (am 9)]) rfl ?_
                have h_81 : vp_in x1 32 := (mx_in (hg_up (by decide) hG) c_10)
                refine va_iast (x := S x1.toNatClampNeg 9) hx hb hK T.1 T.2.1 T.2.2 10 10 rfl rfl h_81 dX3_begin_81 (fun H locs hP hD hS => ?_)
                have T := md_set9 (i := x1.toNatClampNeg) (v := S x1.toNatClampNeg 9) ⟨hP, hD, hS⟩
                refine lv_aload_n hx hb dX3_begin_82 rfl (lv_at hl 1 rfl) ?_
                refine va_get (D := D) (ci := 2) (v := .ref (am 10)) (C := RX3) (T := TX3) (N := 19) hx hb hts hinM hown hK T.1 0 rfl rfl 13 (by decide) (hts _ (List.mem_cons_of_mem _ k3_f41)) (fun _ h9 => h9) rfl dX3_begin_83 ?_
                refine lv_iload_n hx hb dX3_begin_86 rfl (lv_at hl 2 rfl) ?_
                refine lv_iload_n hx hb dX3_begin_87 rfl (lv_at hl 0 rfl) ?_
                refine lv_if_eq (tgt := 95) hx hb dX3_begin_88 (by decide) (fun _ => ?_) (fun c_88 => absurd c_88 (by decide))
                refine lv_aload_n hx hb dX3_begin_95 rfl (lv_at hl 1 rfl) ?_
                refine va_get (D := D) (ci := 2) (v := .ref (am 10)) (C := RX3) (T := TX3) (N := 19) hx hb hts hinM hown hK T.1 0 rfl rfl 13 (by decide) (hts _ (List.mem_cons_of_mem _ k3_f41)) (fun _ h9 => h9) rfl dX3_begin_96 ?_
                refine lv_iload_n hx hb dX3_begin_99 rfl (lv_at hl 2 rfl) ?_
                have h_100 : vp_in x1 32 := (mx_in (hg_up (by decide) hG) c_10)
                refine va_iald hx hb hK T.1 11 11 rfl rfl h_100 dX3_begin_100 ?_
                refine W.eq (g2 := F0 m 101 ls [.int ((up2 S x1.toNatClampNeg 9 (S x1.toNatClampNeg 9)) x1.toNatClampNeg 10), .int x1, .ref (am 10)]) rfl ?_
                have h_101 : vp_in x1 32 := (mx_in (hg_up (by decide) hG) c_10)
                refine va_iast (x := (up2 S x1.toNatClampNeg 9 (S x1.toNatClampNeg 9)) x1.toNatClampNeg 10) hx hb hK T.1 T.2.1 T.2.2 11 11 rfl rfl h_101 dX3_begin_101 (fun H locs hP hD hS => ?_)
                have T := md_set10 (i := x1.toNatClampNeg) (v := (up2 S x1.toNatClampNeg 9 (S x1.toNatClampNeg 9)) x1.toNatClampNeg 10) ⟨hP, hD, hS⟩
                refine lv_iload_n hx hb dX3_begin_102 rfl (lv_at hl 0 rfl) ?_
                have e9 : sm_begin G S B n x1 x2 = (0, upd G 3 0, up2 (up2 S x1.toNatClampNeg 9 (S x1.toNatClampNeg 9)) x1.toNatClampNeg 10 ((up2 S x1.toNatClampNeg 9 (S x1.toNatClampNeg 9)) x1.toNatClampNeg 10)) := by unfold sm_begin; simp only [if_neg c_10, if_neg c_14, if_pos c_19, if_neg c_30, if_pos c_34, if_pos c_43, if_pos c_53]
                exact hw_iret C T (by decide) (by rw [e9]) (by rw [e9]) dX3_begin_103
              · skip
                refine lv_iconst (v := 1) hx hb dX3_begin_56 (by decide) ?_
                refine lv_goto (tgt := 61) hx hb dX3_begin_57 (by decide) ?_
                refine lv_istore_n (lv' := [(3, .int 1), (0, .ref o), (1, .int x1), (2, .int x2)]) hx hb dX3_begin_61 rfl hl (by decide) rfl (fun ls hl => ?_)
                refine lv_aload_n hx hb dX3_begin_62 rfl (lv_at hl 1 rfl) ?_
                refine va_get (D := D) (ci := 2) (v := .ref (am 9)) (C := RX3) (T := TX3) (N := 19) hx hb hts hinM hown hK T.1 0 rfl rfl 12 (by decide) (hts _ (List.mem_cons_of_mem _ k3_f38)) (fun _ h9 => h9) rfl dX3_begin_63 ?_
                refine lv_iload_n hx hb dX3_begin_66 rfl (lv_at hl 2 rfl) ?_
                refine lv_iload_n hx hb dX3_begin_67 rfl (lv_at hl 0 rfl) ?_
                refine lv_if_eq (tgt := 75) hx hb dX3_begin_68 (by decide) (fun c_68 => absurd c_68 (by decide)) (fun _ => ?_)
                refine lv_iconst (v := 1) hx hb dX3_begin_71 (by decide) ?_
                refine lv_goto (tgt := 81) hx hb dX3_begin_72 (by decide) ?_
                have h_81 : vp_in x1 32 := (mx_in (hg_up (by decide) hG) c_10)
                refine va_iast (x := 1) hx hb hK T.1 T.2.1 T.2.2 10 10 rfl rfl h_81 dX3_begin_81 (fun H locs hP hD hS => ?_)
                have T := md_set9 (i := x1.toNatClampNeg) (v := 1) ⟨hP, hD, hS⟩
                refine lv_aload_n hx hb dX3_begin_82 rfl (lv_at hl 1 rfl) ?_
                refine va_get (D := D) (ci := 2) (v := .ref (am 10)) (C := RX3) (T := TX3) (N := 19) hx hb hts hinM hown hK T.1 0 rfl rfl 13 (by decide) (hts _ (List.mem_cons_of_mem _ k3_f41)) (fun _ h9 => h9) rfl dX3_begin_83 ?_
                refine lv_iload_n hx hb dX3_begin_86 rfl (lv_at hl 2 rfl) ?_
                refine lv_iload_n hx hb dX3_begin_87 rfl (lv_at hl 0 rfl) ?_
                refine lv_if_eq (tgt := 95) hx hb dX3_begin_88 (by decide) (fun c_88 => absurd c_88 (by decide)) (fun _ => ?_)
                refine lv_iconst (v := 0) hx hb dX3_begin_91 (by decide) ?_
                refine lv_goto (tgt := 101) hx hb dX3_begin_92 (by decide) ?_
                have h_101 : vp_in x1 32 := (mx_in (hg_up (by decide) hG) c_10)
                refine va_iast (x := 0) hx hb hK T.1 T.2.1 T.2.2 11 11 rfl rfl h_101 dX3_begin_101 (fun H locs hP hD hS => ?_)
                have T := md_set10 (i := x1.toNatClampNeg) (v := 0) ⟨hP, hD, hS⟩
                refine lv_iload_n hx hb dX3_begin_102 rfl (lv_at hl 0 rfl) ?_
                have e9 : sm_begin G S B n x1 x2 = (1, upd G 3 0, up2 (up2 S x1.toNatClampNeg 9 1) x1.toNatClampNeg 10 0) := by unfold sm_begin; simp only [if_neg c_10, if_neg c_14, if_pos c_19, if_neg c_30, if_pos c_34, if_pos c_43, if_neg c_53]
                exact hw_iret C T (by decide) (by rw [e9]) (by rw [e9]) dX3_begin_103
      · skip
        refine lv_iconst (v := 0) hx hb dX3_begin_22 (by decide) ?_
        have e9 : sm_begin G S B n x1 x2 = (0, upd G 3 0, S) := by unfold sm_begin; simp only [if_neg c_10, if_neg c_14, if_neg c_19]
        exact hw_iret C T (by decide) (by rw [e9]) (by rw [e9]) dX3_begin_23
/-- tag: its loop, by what is left to do -/
def sm_tag_loop (B : Nat → Int32) (n : Nat) (x1 : Int32) (x2 : Int32) : Nat → Nat → Int32 → (Nat → Int32) → (Nat → Nat → Int32) → Int32 × (Nat → Int32) × (Nat → Nat → Int32)
  | 0, _, x, G, S => (x, G, S)
  | k + 1, i, x, G, S => if (S i 4) = x1 then (if ((sm_begin G S B n (nI i) x2).1) = 0 then (sm_tag_loop B n x1 x2 k (i + 1) (x + 0) ((sm_begin G S B n (nI i) x2).2.1) ((sm_begin G S B n (nI i) x2).2.2)) else (sm_tag_loop B n x1 x2 k (i + 1) (x + 1) ((sm_begin G S B n (nI i) x2).2.1) ((sm_begin G S B n (nI i) x2).2.2))) else (sm_tag_loop B n x1 x2 k (i + 1) (x + 0) G S)
set_option maxHeartbeats 4000000 in
set_option maxRecDepth 100000 in
theorem lp_m_tag {p : Program} {e : Env} {s : State} {m : MethodId} {args : Array Value} {below : List Frame} {meth : Method} {c : Code} {A : Nat → Prop} {x1 : Int32} {x2 : Int32}  (C : hw_C p s m args meth c cX3_tag (some .int) 5 wsX3_tag yX3_tag.cls D (t0 :: md_tys cm) A) :
    ∀ (k i : Nat) (x : Int32) (G : Nat → Int32) (S : Nat → Nat → Int32), i + k = n → hg_n G n → ∀ (ls : Array Slot) (H : Heap) (locs : List Loc), hw_T D A s.heap (md_W o am cm G S B) H locs → lv_has ls 5 [(0, .ref o), (1, .int x1), (2, .int x2), (3, .int x), (4, .int (nI i))] → W p l e { frames := 2, cells := 0, slots := 0, locals := 47 } s m args below meth c H locs 0 0 (MQ below (va_Qi (fun (r' : Int32) (_ : Unit) => r' = (sm_tag_loop B n x1 x2 k i x G S).1) (fun _ t => va_P D vwCl (md_W o am cm (sm_tag_loop B n x1 x2 k i x G S).2.1 (sm_tag_loop B n x1 x2 k i x G S).2.2 B) t.heap) A) args s 0 0 A) (F0 m 32 ls []) := by
  have hx := C.1.1
  have hb := C.1.2.1
  have hml := C.1.2.2.1
  have hown : s.vm.findClass RX3 = some m.cls := C.1.2.2.2.1
  have hts := C.1.2.2.2.2
  have hK := C.2.2.2.1
  have hinM : ∀ w ∈ wsX30, w ∈ wsX3_tag := fun w h => List.mem_cons_of_mem _ (inX3 w h)
  intro k
  induction k with
  | zero =>
    intro i x G S hik hG ls H locs T hl
    have hn32 := hG.1
    refine lv_iload hx hb dX3_tag_32 (lv_at hl 4 rfl) ?_
    refine lv_aload_n hx hb dX3_tag_34 rfl (lv_at hl 0 rfl) ?_
    refine va_get (D := D) (ci := 2) (v := .int (G 0)) (C := RX3) (T := TX3) (N := 19) hx hb hts hinM hown hK T.1 0 rfl rfl 1 (by decide) (hts _ (List.mem_cons_of_mem _ k3_f57)) (fun _ h9 => h9) rfl dX3_tag_35 ?_
    refine lv_icmp_ge (tgt := 76) hx hb dX3_tag_38 (by decide) (fun c_38 => ?_) (fun c_38 => absurd (show G 0 ≤ nI i by rw [hG.2]; exact nI_le (show n ≤ i by omega) (by omega)) c_38)
    refine lv_iload_n hx hb dX3_tag_76 rfl (lv_at hl 3 rfl) ?_
    have e9 : sm_tag_loop B n x1 x2 0 i x G S = (x, G, S) := by rw [sm_tag_loop]
    exact hw_iret C T rfl (by rw [e9]) (by rw [e9]) dX3_tag_77
  | succ k ih =>
    intro i x G S hik hG ls H locs T hl
    have hn32 := hG.1
    refine lv_iload hx hb dX3_tag_32 (lv_at hl 4 rfl) ?_
    refine lv_aload_n hx hb dX3_tag_34 rfl (lv_at hl 0 rfl) ?_
    refine va_get (D := D) (ci := 2) (v := .int (G 0)) (C := RX3) (T := TX3) (N := 19) hx hb hts hinM hown hK T.1 0 rfl rfl 1 (by decide) (hts _ (List.mem_cons_of_mem _ k3_f57)) (fun _ h9 => h9) rfl dX3_tag_35 ?_
    refine lv_icmp_ge (tgt := 76) hx hb dX3_tag_38 (by decide) (fun c_38 => absurd c_38 (show ¬ G 0 ≤ nI i by rw [hG.2]; exact nI_ge (show i < n by omega) (by omega))) (fun c_38 => ?_)
    refine lv_iload_n hx hb dX3_tag_41 rfl (lv_at hl 3 rfl) ?_
    refine lv_aload_n hx hb dX3_tag_42 rfl (lv_at hl 0 rfl) ?_
    refine va_get (D := D) (ci := 2) (v := .ref (am 4)) (C := RX3) (T := TX3) (N := 19) hx hb hts hinM hown hK T.1 0 rfl rfl 6 (by decide) (hts _ (List.mem_cons_of_mem _ k3_f22)) (fun _ h9 => h9) rfl dX3_tag_43 ?_
    refine lv_iload hx hb dX3_tag_46 (lv_at hl 4 rfl) ?_
    have h_48 : vp_in (nI i) 32 := vp_in_nI (show i < 32 by omega) (by decide)
    refine va_iald hx hb hK T.1 5 5 rfl rfl h_48 dX3_tag_48 ?_
    refine W.eq (g2 := F0 m 49 ls [.int (S i 4), .int x]) (by rw [nI_clamp (show i < 2 ^ 31 by omega)] <;> rfl) ?_
    refine lv_iload_n hx hb dX3_tag_49 rfl (lv_at hl 1 rfl) ?_
    refine lv_icmp_ne (tgt := 67) hx hb dX3_tag_50 (by decide) (fun c_50 => ?_) (fun c_50 => ?_)
    · skip
      refine lv_iconst (v := 0) hx hb dX3_tag_67 (by decide) ?_
      refine lv_iadd hx hb dX3_tag_68 ?_
      refine lv_istore_n (lv' := [(3, .int (x + 0)), (0, .ref o), (1, .int x1), (2, .int x2), (4, .int (nI i))]) hx hb dX3_tag_69 rfl hl (by decide) rfl (fun ls hl => ?_)
      refine lv_iinc (v := nI (i + 1)) (lv' := [(4, .int (nI (i + 1))), (3, .int (x + 0)), (0, .ref o), (1, .int x1), (2, .int x2)]) hx hb dX3_tag_70 hl (k := 4) rfl (nI_1 i) (by decide) rfl (fun ls hl => ?_)
      refine lv_goto (tgt := 32) hx hb dX3_tag_73 (by decide) ?_
      rw [show sm_tag_loop B n x1 x2 (k + 1) i x G S = sm_tag_loop B n x1 x2 k (i + 1) (x + 0) G S from by rw [sm_tag_loop]; simp only [if_neg c_50]]
      exact ih (i + 1) _ _ _ (by omega) hG _ _ _ T (lv_sub hl [2, 3, 4, 1, 0] rfl)
    · skip
      refine lv_aload_n hx hb dX3_tag_53 rfl (lv_at hl 0 rfl) ?_
      refine lv_iload hx hb dX3_tag_54 (lv_at hl 4 rfl) ?_
      refine lv_iload_n hx hb dX3_tag_56 rfl (lv_at hl 2 rfl) ?_
      refine hw_Vi (As := [.int (nI i), .int x2]) (rest := [.int x]) C T (c_M_begin hG) (cwV 2 hts (x3_in k3_m87 k3_i_begin k3_s_begin k3_ini k3_c_begin) rfl rfl rfl (by decide +kernel) ⟨Nat.le_of_ble_eq_true rfl, Nat.le_of_ble_eq_true rfl⟩) md_isO md_ad rfl hl.1 rfl (Nat.le_of_ble_eq_true rfl) dX3_tag_57 ⟨Nat.zero_le _, Nat.zero_le _⟩ (fun H locs T => ?_)
      refine lv_if_eq (tgt := 67) hx hb dX3_tag_60 (by decide) (fun c_60 => ?_) (fun c_60 => ?_)
      · skip
        refine lv_iconst (v := 0) hx hb dX3_tag_67 (by decide) ?_
        refine lv_iadd hx hb dX3_tag_68 ?_
        refine lv_istore_n (lv' := [(3, .int (x + 0)), (0, .ref o), (1, .int x1), (2, .int x2), (4, .int (nI i))]) hx hb dX3_tag_69 rfl hl (by decide) rfl (fun ls hl => ?_)
        refine lv_iinc (v := nI (i + 1)) (lv' := [(4, .int (nI (i + 1))), (3, .int (x + 0)), (0, .ref o), (1, .int x1), (2, .int x2)]) hx hb dX3_tag_70 hl (k := 4) rfl (nI_1 i) (by decide) rfl (fun ls hl => ?_)
        refine lv_goto (tgt := 32) hx hb dX3_tag_73 (by decide) ?_
        rw [show sm_tag_loop B n x1 x2 (k + 1) i x G S = sm_tag_loop B n x1 x2 k (i + 1) (x + 0) ((sm_begin G S B n (nI i) x2).2.1) ((sm_begin G S B n (nI i) x2).2.2) from by rw [sm_tag_loop]; simp only [if_pos c_50, if_pos c_60]]
        exact ih (i + 1) _ _ _ (by omega) (sm_begin_n hG) _ _ _ T (lv_sub hl [2, 3, 4, 1, 0] rfl)
      · skip
        refine lv_iconst (v := 1) hx hb dX3_tag_63 (by decide) ?_
        refine lv_goto (tgt := 68) hx hb dX3_tag_64 (by decide) ?_
        refine lv_iadd hx hb dX3_tag_68 ?_
        refine lv_istore_n (lv' := [(3, .int (x + 1)), (0, .ref o), (1, .int x1), (2, .int x2), (4, .int (nI i))]) hx hb dX3_tag_69 rfl hl (by decide) rfl (fun ls hl => ?_)
        refine lv_iinc (v := nI (i + 1)) (lv' := [(4, .int (nI (i + 1))), (3, .int (x + 1)), (0, .ref o), (1, .int x1), (2, .int x2)]) hx hb dX3_tag_70 hl (k := 4) rfl (nI_1 i) (by decide) rfl (fun ls hl => ?_)
        refine lv_goto (tgt := 32) hx hb dX3_tag_73 (by decide) ?_
        rw [show sm_tag_loop B n x1 x2 (k + 1) i x G S = sm_tag_loop B n x1 x2 k (i + 1) (x + 1) ((sm_begin G S B n (nI i) x2).2.1) ((sm_begin G S B n (nI i) x2).2.2) from by rw [sm_tag_loop]; simp only [if_pos c_50, if_neg c_60]]
        exact ih (i + 1) _ _ _ (by omega) (sm_begin_n hG) _ _ _ T (lv_sub hl [2, 3, 4, 1, 0] rfl)
/-- tag, its picture -/
def sm_tag (G : Nat → Int32) (S : Nat → Nat → Int32) (B : Nat → Int32) (n : Nat) (x1 : Int32) (x2 : Int32) : Int32 × (Nat → Int32) × (Nat → Nat → Int32) := if x1 < 0 then ((-1), upd G 3 0, S) else (if 255 < x1 then ((-1), upd G 3 0, S) else (if x2 < 0 then ((-1), upd G 3 0, S) else (if x2 ≤ 2 then (sm_tag_loop B n x1 x2 n 0 0 (upd G 3 0) S) else ((-1), upd G 3 0, S))))
set_option maxHeartbeats 4000000 in
set_option maxRecDepth 100000 in
theorem c_M_tag {x1 : Int32} {x2 : Int32} (hG : hg_n G n) : MI l D (t0 :: md_tys cm) yX3_tag wsX3_tag { frames := 2, cells := 0, slots := 0, locals := 47 } [.ref o, .int x1, .int x2] (md_W o am cm G S B) ((sm_tag G S B n x1 x2).1) (md_W o am cm (sm_tag G S B n x1 x2).2.1 (sm_tag G S B n x1 x2).2.2 B) := by
  refine MI.start (cc := cX3_tag) (maxL := 5) (by decide) rfl (Nat.le_of_ble_eq_true rfl) (fun p e s m args below meth c A ls C T hl => ?_)
  have hx := C.1.1
  have hb := C.1.2.1
  have hml := C.1.2.2.1
  have hown : s.vm.findClass RX3 = some m.cls := C.1.2.2.2.1
  have hts := C.1.2.2.2.2
  have hK := C.2.2.2.1
  have hinM : ∀ w ∈ wsX30, w ∈ wsX3_tag := fun w h => List.mem_cons_of_mem _ (inX3 w h)
  have hn32 := hG.1
  have hl : lv_has ls 5 [(0, .ref o), (1, .int x1), (2, .int x2)] := hl
  refine lv_aload_n hx hb dX3_tag_0 rfl (lv_at hl 0 rfl) ?_
  refine lv_iconst (v := 0) hx hb dX3_tag_1 (by decide) ?_
  refine va_put (D := D) (ci := 2) (v := .int 0) (ty := .int) (C := RX3) (T := TX3) (N := 19) hx hb hts hinM tyX3 tyX3_ok nmX3 hown hK T.1 T.2.1 T.2.2 0 rfl rfl 0 (by decide) (hts _ (List.mem_cons_of_mem _ k3_f54)) (fun _ h9 => h9) rfl (by decide +kernel) rfl rfl (Nat.le_of_ble_eq_true rfl) dX3_tag_2 (fun H locs hP hD hS => ?_)
  have T := md_setG (k := 3) (v := 0) (kk := 0) rfl ⟨hP, hD, hS⟩
  refine lv_iload_n hx hb dX3_tag_5 rfl (lv_at hl 1 rfl) ?_
  refine lv_if_lt (tgt := 25) hx hb dX3_tag_6 (by decide) (fun c_6 => ?_) (fun c_6 => ?_)
  · skip
    refine lv_iconst (v := (-1)) hx hb dX3_tag_25 (by decide) ?_
    have e9 : sm_tag G S B n x1 x2 = ((-1), upd G 3 0, S) := by unfold sm_tag; simp only [if_pos c_6]
    exact hw_iret C T rfl (by rw [e9]) (by rw [e9]) dX3_tag_26
  · skip
    refine lv_iload_n hx hb dX3_tag_9 rfl (lv_at hl 1 rfl) ?_
    refine lv_sipush (v := 255) hx hb dX3_tag_10 (by decide) ?_
    refine lv_icmp_gt (tgt := 25) hx hb dX3_tag_13 (by decide) (fun c_13 => ?_) (fun c_13 => ?_)
    · skip
      refine lv_iconst (v := (-1)) hx hb dX3_tag_25 (by decide) ?_
      have e9 : sm_tag G S B n x1 x2 = ((-1), upd G 3 0, S) := by unfold sm_tag; simp only [if_neg c_6, if_pos c_13]
      exact hw_iret C T rfl (by rw [e9]) (by rw [e9]) dX3_tag_26
    · skip
      refine lv_iload_n hx hb dX3_tag_16 rfl (lv_at hl 2 rfl) ?_
      refine lv_if_lt (tgt := 25) hx hb dX3_tag_17 (by decide) (fun c_17 => ?_) (fun c_17 => ?_)
      · skip
        refine lv_iconst (v := (-1)) hx hb dX3_tag_25 (by decide) ?_
        have e9 : sm_tag G S B n x1 x2 = ((-1), upd G 3 0, S) := by unfold sm_tag; simp only [if_neg c_6, if_neg c_13, if_pos c_17]
        exact hw_iret C T rfl (by rw [e9]) (by rw [e9]) dX3_tag_26
      · skip
        refine lv_iload_n hx hb dX3_tag_20 rfl (lv_at hl 2 rfl) ?_
        refine lv_iconst (v := 2) hx hb dX3_tag_21 (by decide) ?_
        refine lv_icmp_le (tgt := 27) hx hb dX3_tag_22 (by decide) (fun c_22 => ?_) (fun c_22 => ?_)
        · skip
          refine lv_iconst (v := 0) hx hb dX3_tag_27 (by decide) ?_
          refine lv_istore_n (lv' := [(3, .int 0), (0, .ref o), (1, .int x1), (2, .int x2)]) hx hb dX3_tag_28 rfl hl (by decide) rfl (fun ls hl => ?_)
          refine lv_iconst (v := 0) hx hb dX3_tag_29 (by decide) ?_
          refine lv_istore (lv' := [(4, .int 0), (3, .int 0), (0, .ref o), (1, .int x1), (2, .int x2)]) hx hb dX3_tag_30 hl (by decide) rfl (fun ls hl => ?_)
          rw [show sm_tag G S B n x1 x2 = sm_tag_loop B n x1 x2 n 0 0 (upd G 3 0) S from by unfold sm_tag; simp only [if_neg c_6, if_neg c_13, if_neg c_17, if_pos c_22]]
          exact lp_m_tag C n 0 _ _ _ (by omega) (hg_up (by decide) hG) _ _ _ T (lv_sub hl [2, 3, 4, 1, 0] rfl)
        · skip
          refine lv_iconst (v := (-1)) hx hb dX3_tag_25 (by decide) ?_
          have e9 : sm_tag G S B n x1 x2 = ((-1), upd G 3 0, S) := by unfold sm_tag; simp only [if_neg c_6, if_neg c_13, if_neg c_17, if_neg c_22]
          exact hw_iret C T rfl (by rw [e9]) (by rw [e9]) dX3_tag_26
/-- enter, its picture -/
def sm_enter (G : Nat → Int32) (x1 : Int32) : Int32 × (Nat → Int32) := if x1 = (-1) then (1, upd (upd G 3 0) 5 x1) else (if (sm_isSector (upd G 3 0) x1) = 0 then (0, upd G 3 0) else (1, upd (upd G 3 0) 5 x1))
set_option maxHeartbeats 4000000 in
set_option maxRecDepth 100000 in
theorem c_M_enter {x1 : Int32}  : MI l D (t0 :: md_tys cm) yX3_enter wsX3_enter { frames := 1, cells := 0, slots := 0, locals := 21 } [.ref o, .int x1] (md_W o am cm G S B) ((sm_enter G x1).1) (md_W o am cm (sm_enter G x1).2 S B) := by
  refine MI.start (cc := cX3_enter) (maxL := 2) (by decide) rfl (Nat.le_of_ble_eq_true rfl) (fun p e s m args below meth c A ls C T hl => ?_)
  have hx := C.1.1
  have hb := C.1.2.1
  have hml := C.1.2.2.1
  have hown : s.vm.findClass RX3 = some m.cls := C.1.2.2.2.1
  have hts := C.1.2.2.2.2
  have hK := C.2.2.2.1
  have hinM : ∀ w ∈ wsX30, w ∈ wsX3_enter := fun w h => List.mem_cons_of_mem _ (inX3 w h)
  have hl : lv_has ls 2 [(0, .ref o), (1, .int x1)] := hl
  refine lv_aload_n hx hb dX3_enter_0 rfl (lv_at hl 0 rfl) ?_
  refine lv_iconst (v := 0) hx hb dX3_enter_1 (by decide) ?_
  refine va_put (D := D) (ci := 2) (v := .int 0) (ty := .int) (C := RX3) (T := TX3) (N := 19) hx hb hts hinM tyX3 tyX3_ok nmX3 hown hK T.1 T.2.1 T.2.2 0 rfl rfl 0 (by decide) (hts _ (List.mem_cons_of_mem _ k3_f54)) (fun _ h9 => h9) rfl (by decide +kernel) rfl rfl (Nat.le_of_ble_eq_true rfl) dX3_enter_2 (fun H locs hP hD hS => ?_)
  have T := md_setG (k := 3) (v := 0) (kk := 0) rfl ⟨hP, hD, hS⟩
  refine lv_iload_n hx hb dX3_enter_5 rfl (lv_at hl 1 rfl) ?_
  refine lv_iconst (v := (-1)) hx hb dX3_enter_6 (by decide) ?_
  refine lv_icmp_eq (tgt := 20) hx hb dX3_enter_7 (by decide) (fun c_7 => ?_) (fun c_7 => ?_)
  · skip
    refine lv_aload_n hx hb dX3_enter_20 rfl (lv_at hl 0 rfl) ?_
    refine lv_iload_n hx hb dX3_enter_21 rfl (lv_at hl 1 rfl) ?_
    refine va_put (D := D) (ci := 2) (v := .int x1) (ty := .int) (C := RX3) (T := TX3) (N := 19) hx hb hts hinM tyX3 tyX3_ok nmX3 hown hK T.1 T.2.1 T.2.2 0 rfl rfl 17 (by decide) (hts _ (List.mem_cons_of_mem _ k3_f50)) (fun _ h9 => h9) rfl (by decide +kernel) rfl rfl (Nat.le_of_ble_eq_true rfl) dX3_enter_22 (fun H locs hP hD hS => ?_)
    have T := md_setG (k := 5) (v := x1) (kk := 17) rfl ⟨hP, hD, hS⟩
    refine lv_iconst (v := 1) hx hb dX3_enter_25 (by decide) ?_
    have e9 : sm_enter G x1 = (1, upd (upd G 3 0) 5 x1) := by unfold sm_enter; simp only [if_pos c_7]
    exact hw_iret C T (by decide) (by rw [e9]) (by rw [e9]) dX3_enter_26
  · skip
    refine lv_aload_n hx hb dX3_enter_10 rfl (lv_at hl 0 rfl) ?_
    refine lv_iload_n hx hb dX3_enter_11 rfl (lv_at hl 1 rfl) ?_
    refine hw_Vi (As := [.int x1]) (rest := []) C T (c_M_isSector) (cwV 1 hts (x3_in k3_m63 k3_i_isSector k3_s_isSector k3_ini k3_c_isSector) rfl rfl rfl (by decide +kernel) ⟨Nat.le_of_ble_eq_true rfl, Nat.le_of_ble_eq_true rfl⟩) md_isO md_ad rfl hl.1 rfl (Nat.le_of_ble_eq_true rfl) dX3_enter_12 ⟨Nat.zero_le _, Nat.zero_le _⟩ (fun H locs T => ?_)
    refine lv_if_ne (tgt := 20) hx hb dX3_enter_15 (by decide) (fun c_15 => ?_) (fun c_15 => ?_)
    · skip
      refine lv_aload_n hx hb dX3_enter_20 rfl (lv_at hl 0 rfl) ?_
      refine lv_iload_n hx hb dX3_enter_21 rfl (lv_at hl 1 rfl) ?_
      refine va_put (D := D) (ci := 2) (v := .int x1) (ty := .int) (C := RX3) (T := TX3) (N := 19) hx hb hts hinM tyX3 tyX3_ok nmX3 hown hK T.1 T.2.1 T.2.2 0 rfl rfl 17 (by decide) (hts _ (List.mem_cons_of_mem _ k3_f50)) (fun _ h9 => h9) rfl (by decide +kernel) rfl rfl (Nat.le_of_ble_eq_true rfl) dX3_enter_22 (fun H locs hP hD hS => ?_)
      have T := md_setG (k := 5) (v := x1) (kk := 17) rfl ⟨hP, hD, hS⟩
      refine lv_iconst (v := 1) hx hb dX3_enter_25 (by decide) ?_
      have e9 : sm_enter G x1 = (1, upd (upd G 3 0) 5 x1) := by unfold sm_enter; simp only [if_neg c_7, if_neg c_15]
      exact hw_iret C T (by decide) (by rw [e9]) (by rw [e9]) dX3_enter_26
    · skip
      refine lv_iconst (v := 0) hx hb dX3_enter_18 (by decide) ?_
      have e9 : sm_enter G x1 = (0, upd G 3 0) := by unfold sm_enter; simp only [if_neg c_7, if_pos c_15]
      exact hw_iret C T (by decide) (by rw [e9]) (by rw [e9]) dX3_enter_19
/-- ticks: its loop, by what is left to do -/
def sm_ticks_inner  : Nat → Nat → (Nat → Int32) → (Nat → Nat → Int32) → (Nat → Int32) × (Nat → Nat → Int32)
  | 0, _, G, S => (G, S)
  | k + 1, i, G, S => if (S i 8) < 0 then (sm_ticks_inner k (i + 1) G S) else (if (S i 10) ≤ 0 then (sm_ticks_inner k (i + 1) ((sm_step G S (nI i)).1) ((sm_step G S (nI i)).2)) else (if ((up2 S i 10 ((S i 10) - 1)) i 10) ≤ 0 then (if ((up2 S i 10 ((S i 10) - 1)) i 8) = 0 then (sm_ticks_inner k (i + 1) G (up2 (up2 S i 10 ((S i 10) - 1)) i 9 (-1))) else (sm_ticks_inner k (i + 1) G (up2 (up2 S i 10 ((S i 10) - 1)) i 9 1))) else (sm_ticks_inner k (i + 1) G (up2 (up2 S i 10 ((S i 10) - 1)) i 9 0))))
theorem sm_ticks_inner_0 : ∀ (k i : Nat) (G : Nat → Int32) (S : Nat → Nat → Int32), (sm_ticks_inner k i G S).1 0 = G 0 := by
  intro k
  induction k with
  | zero => intro i G S; rfl
  | succ k ih =>
    intro i G S
    rw [sm_ticks_inner]
    repeat' split
    all_goals first | rw [ih, sm_step_0] | rw [ih]
theorem sm_ticks_inner_n {k i n : Nat} {G : Nat → Int32} {S : Nat → Nat → Int32} (h : hg_n G n) : hg_n (sm_ticks_inner k i G S).1 n := ⟨h.1, by rw [sm_ticks_inner_0]; exact h.2⟩
set_option maxHeartbeats 4000000 in
set_option maxRecDepth 100000 in
theorem lp_m_ticks_inner {p : Program} {e : Env} {s : State} {m : MethodId} {args : Array Value} {below : List Frame} {meth : Method} {c : Code} {A : Nat → Prop} {x1 : Int32}  {x2 : Int32} (C : hw_C p s m args meth c cX3_ticks (some .int) 4 wsX3_ticks yX3_ticks.cls D (t0 :: md_tys cm) A) {Q : State → Prop} :
    ∀ (k i : Nat) (G : Nat → Int32) (S : Nat → Nat → Int32), i + k = n → hg_n G n → ∀ (ls : Array Slot) (H : Heap) (locs : List Loc), hw_T D A s.heap (md_W o am cm G S B) H locs → lv_has ls 4 [(0, .ref o), (1, .int x1), (2, .int x2), (3, .int (nI i))] → (∀ (ls : Array Slot) (H : Heap) (locs : List Loc), hw_T D A s.heap (md_W o am cm (sm_ticks_inner k i G S).1 (sm_ticks_inner k i G S).2 B) H locs → lv_has ls 4 [(0, .ref o), (1, .int x1), (2, .int x2)] → W p l e { frames := 3, cells := 0, slots := 0, locals := 66 } s m args below meth c H locs 0 0 Q (F0 m 129 ls [])) → W p l e { frames := 3, cells := 0, slots := 0, locals := 66 } s m args below meth c H locs 0 0 Q (F0 m 37 ls []) := by
  have hx := C.1.1
  have hb := C.1.2.1
  have hml := C.1.2.2.1
  have hown : s.vm.findClass RX3 = some m.cls := C.1.2.2.2.1
  have hts := C.1.2.2.2.2
  have hK := C.2.2.2.1
  have hinM : ∀ w ∈ wsX30, w ∈ wsX3_ticks := fun w h => List.mem_cons_of_mem _ (inX3 w h)
  intro k
  induction k with
  | zero =>
    intro i G S hik hG ls H locs T hl hout
    have hn32 := hG.1
    refine lv_iload_n hx hb dX3_ticks_37 rfl (lv_at hl 3 rfl) ?_
    refine lv_aload_n hx hb dX3_ticks_38 rfl (lv_at hl 0 rfl) ?_
    refine va_get (D := D) (ci := 2) (v := .int (G 0)) (C := RX3) (T := TX3) (N := 19) hx hb hts hinM hown hK T.1 0 rfl rfl 1 (by decide) (hts _ (List.mem_cons_of_mem _ k3_f57)) (fun _ h9 => h9) rfl dX3_ticks_39 ?_
    refine lv_icmp_ge (tgt := 129) hx hb dX3_ticks_42 (by decide) (fun c_42 => ?_) (fun c_42 => absurd (show G 0 ≤ nI i by rw [hG.2]; exact nI_le (show n ≤ i by omega) (by omega)) c_42)
    rw [show sm_ticks_inner 0 i G S = (G, S) from by rw [sm_ticks_inner]] at hout
    exact hout _ _ _ T (lv_sub hl [0, 1, 2] rfl)
  | succ k ih =>
    intro i G S hik hG ls H locs T hl hout
    have hn32 := hG.1
    refine lv_iload_n hx hb dX3_ticks_37 rfl (lv_at hl 3 rfl) ?_
    refine lv_aload_n hx hb dX3_ticks_38 rfl (lv_at hl 0 rfl) ?_
    refine va_get (D := D) (ci := 2) (v := .int (G 0)) (C := RX3) (T := TX3) (N := 19) hx hb hts hinM hown hK T.1 0 rfl rfl 1 (by decide) (hts _ (List.mem_cons_of_mem _ k3_f57)) (fun _ h9 => h9) rfl dX3_ticks_39 ?_
    refine lv_icmp_ge (tgt := 129) hx hb dX3_ticks_42 (by decide) (fun c_42 => absurd c_42 (show ¬ G 0 ≤ nI i by rw [hG.2]; exact nI_ge (show i < n by omega) (by omega))) (fun c_42 => ?_)
    refine lv_aload_n hx hb dX3_ticks_45 rfl (lv_at hl 0 rfl) ?_
    refine va_get (D := D) (ci := 2) (v := .ref (am 8)) (C := RX3) (T := TX3) (N := 19) hx hb hts hinM hown hK T.1 0 rfl rfl 11 (by decide) (hts _ (List.mem_cons_of_mem _ k3_f35)) (fun _ h9 => h9) rfl dX3_ticks_46 ?_
    refine lv_iload_n hx hb dX3_ticks_49 rfl (lv_at hl 3 rfl) ?_
    have h_50 : vp_in (nI i) 32 := vp_in_nI (show i < 32 by omega) (by decide)
    refine va_iald hx hb hK T.1 9 9 rfl rfl h_50 dX3_ticks_50 ?_
    refine W.eq (g2 := F0 m 51 ls [.int (S i 8)]) (by rw [nI_clamp (show i < 2 ^ 31 by omega)] <;> rfl) ?_
    refine lv_if_lt (tgt := 109) hx hb dX3_ticks_51 (by decide) (fun c_51 => ?_) (fun c_51 => ?_)
    · skip
      refine lv_aload_n hx hb dX3_ticks_109 rfl (lv_at hl 0 rfl) ?_
      refine va_get (D := D) (ci := 2) (v := .ref (am 8)) (C := RX3) (T := TX3) (N := 19) hx hb hts hinM hown hK T.1 0 rfl rfl 11 (by decide) (hts _ (List.mem_cons_of_mem _ k3_f35)) (fun _ h9 => h9) rfl dX3_ticks_110 ?_
      refine lv_iload_n hx hb dX3_ticks_113 rfl (lv_at hl 3 rfl) ?_
      have h_114 : vp_in (nI i) 32 := vp_in_nI (show i < 32 by omega) (by decide)
      refine va_iald hx hb hK T.1 9 9 rfl rfl h_114 dX3_ticks_114 ?_
      refine W.eq (g2 := F0 m 115 ls [.int (S i 8)]) (by rw [nI_clamp (show i < 2 ^ 31 by omega)] <;> rfl) ?_
      refine lv_if_lt (tgt := 123) hx hb dX3_ticks_115 (by decide) (fun _ => ?_) (fun c_115 => absurd c_51 c_115)
      refine lv_iinc (v := nI (i + 1)) (lv' := [(3, .int (nI (i + 1))), (0, .ref o), (1, .int x1), (2, .int x2)]) hx hb dX3_ticks_123 hl (k := 3) rfl (nI_1 i) (by decide) rfl (fun ls hl => ?_)
      refine lv_goto (tgt := 37) hx hb dX3_ticks_126 (by decide) ?_
      rw [show sm_ticks_inner (k + 1) i G S = sm_ticks_inner k (i + 1) G S from by rw [sm_ticks_inner]; simp only [if_pos c_51]] at hout
      exact ih (i + 1) _ _ (by omega) hG _ _ _ T (lv_sub hl [1, 2, 3, 0] rfl) hout
    · skip
      refine lv_aload_n hx hb dX3_ticks_54 rfl (lv_at hl 0 rfl) ?_
      refine va_get (D := D) (ci := 2) (v := .ref (am 10)) (C := RX3) (T := TX3) (N := 19) hx hb hts hinM hown hK T.1 0 rfl rfl 13 (by decide) (hts _ (List.mem_cons_of_mem _ k3_f41)) (fun _ h9 => h9) rfl dX3_ticks_55 ?_
      refine lv_iload_n hx hb dX3_ticks_58 rfl (lv_at hl 3 rfl) ?_
      have h_59 : vp_in (nI i) 32 := vp_in_nI (show i < 32 by omega) (by decide)
      refine va_iald hx hb hK T.1 11 11 rfl rfl h_59 dX3_ticks_59 ?_
      refine W.eq (g2 := F0 m 60 ls [.int (S i 10)]) (by rw [nI_clamp (show i < 2 ^ 31 by omega)] <;> rfl) ?_
      refine lv_if_le (tgt := 109) hx hb dX3_ticks_60 (by decide) (fun c_60 => ?_) (fun c_60 => ?_)
      · skip
        refine lv_aload_n hx hb dX3_ticks_109 rfl (lv_at hl 0 rfl) ?_
        refine va_get (D := D) (ci := 2) (v := .ref (am 8)) (C := RX3) (T := TX3) (N := 19) hx hb hts hinM hown hK T.1 0 rfl rfl 11 (by decide) (hts _ (List.mem_cons_of_mem _ k3_f35)) (fun _ h9 => h9) rfl dX3_ticks_110 ?_
        refine lv_iload_n hx hb dX3_ticks_113 rfl (lv_at hl 3 rfl) ?_
        have h_114 : vp_in (nI i) 32 := vp_in_nI (show i < 32 by omega) (by decide)
        refine va_iald hx hb hK T.1 9 9 rfl rfl h_114 dX3_ticks_114 ?_
        refine W.eq (g2 := F0 m 115 ls [.int (S i 8)]) (by rw [nI_clamp (show i < 2 ^ 31 by omega)] <;> rfl) ?_
        refine lv_if_lt (tgt := 123) hx hb dX3_ticks_115 (by decide) (fun c_115 => absurd c_115 c_51) (fun _ => ?_)
        refine lv_aload_n hx hb dX3_ticks_118 rfl (lv_at hl 0 rfl) ?_
        refine lv_iload_n hx hb dX3_ticks_119 rfl (lv_at hl 3 rfl) ?_
        refine hw_Vv (As := [.int (nI i)]) (rest := []) C T (c_M_step (vp_in_nI (show i < 32 by omega) (by decide))) (cwV 1 hts (x3_in k3_m106 k3_i_step k3_s_step k3_ini k3_c_step) rfl rfl rfl (by decide +kernel) ⟨Nat.le_of_ble_eq_true rfl, Nat.le_of_ble_eq_true rfl⟩) md_isO md_ad rfl hl.1 rfl (Nat.le_of_ble_eq_true rfl) dX3_ticks_120 ⟨Nat.zero_le _, Nat.zero_le _⟩ (fun H locs T => ?_)
        refine lv_iinc (v := nI (i + 1)) (lv' := [(3, .int (nI (i + 1))), (0, .ref o), (1, .int x1), (2, .int x2)]) hx hb dX3_ticks_123 hl (k := 3) rfl (nI_1 i) (by decide) rfl (fun ls hl => ?_)
        refine lv_goto (tgt := 37) hx hb dX3_ticks_126 (by decide) ?_
        rw [show sm_ticks_inner (k + 1) i G S = sm_ticks_inner k (i + 1) ((sm_step G S (nI i)).1) ((sm_step G S (nI i)).2) from by rw [sm_ticks_inner]; simp only [if_neg c_51, if_pos c_60]] at hout
        exact ih (i + 1) _ _ (by omega) (sm_step_n hG) _ _ _ T (lv_sub hl [1, 2, 3, 0] rfl) hout
      · skip
        refine lv_aload_n hx hb dX3_ticks_63 rfl (lv_at hl 0 rfl) ?_
        refine va_get (D := D) (ci := 2) (v := .ref (am 10)) (C := RX3) (T := TX3) (N := 19) hx hb hts hinM hown hK T.1 0 rfl rfl 13 (by decide) (hts _ (List.mem_cons_of_mem _ k3_f41)) (fun _ h9 => h9) rfl dX3_ticks_64 ?_
        refine lv_iload_n hx hb dX3_ticks_67 rfl (lv_at hl 3 rfl) ?_
        refine lv_dup2_11 hx hb dX3_ticks_68 rfl rfl ?_
        have h_69 : vp_in (nI i) 32 := vp_in_nI (show i < 32 by omega) (by decide)
        refine va_iald hx hb hK T.1 11 11 rfl rfl h_69 dX3_ticks_69 ?_
        refine W.eq (g2 := F0 m 70 ls [.int (S i 10), .int (nI i), .ref (am 10)]) (by rw [nI_clamp (show i < 2 ^ 31 by omega)] <;> rfl) ?_
        refine lv_iconst (v := 1) hx hb dX3_ticks_70 (by decide) ?_
        refine lv_isub hx hb dX3_ticks_71 ?_
        have h_72 : vp_in (nI i) 32 := vp_in_nI (show i < 32 by omega) (by decide)
        refine va_iast (x := (S i 10) - 1) hx hb hK T.1 T.2.1 T.2.2 11 11 rfl rfl h_72 dX3_ticks_72 (fun H locs hP hD hS => ?_)
        rw [nI_clamp (show i < 2 ^ 31 by omega)] at hP hD
        have T := md_set10 (i := i) (v := (S i 10) - 1) ⟨hP, hD, hS⟩
        refine lv_aload_n hx hb dX3_ticks_73 rfl (lv_at hl 0 rfl) ?_
        refine va_get (D := D) (ci := 2) (v := .ref (am 9)) (C := RX3) (T := TX3) (N := 19) hx hb hts hinM hown hK T.1 0 rfl rfl 12 (by decide) (hts _ (List.mem_cons_of_mem _ k3_f38)) (fun _ h9 => h9) rfl dX3_ticks_74 ?_
        refine lv_iload_n hx hb dX3_ticks_77 rfl (lv_at hl 3 rfl) ?_
        refine lv_aload_n hx hb dX3_ticks_78 rfl (lv_at hl 0 rfl) ?_
        refine va_get (D := D) (ci := 2) (v := .ref (am 10)) (C := RX3) (T := TX3) (N := 19) hx hb hts hinM hown hK T.1 0 rfl rfl 13 (by decide) (hts _ (List.mem_cons_of_mem _ k3_f41)) (fun _ h9 => h9) rfl dX3_ticks_79 ?_
        refine lv_iload_n hx hb dX3_ticks_82 rfl (lv_at hl 3 rfl) ?_
        have h_83 : vp_in (nI i) 32 := vp_in_nI (show i < 32 by omega) (by decide)
        refine va_iald hx hb hK T.1 11 11 rfl rfl h_83 dX3_ticks_83 ?_
        refine W.eq (g2 := F0 m 84 ls [.int ((up2 S i 10 ((S i 10) - 1)) i 10), .int (nI i), .ref (am 9)]) (by rw [nI_clamp (show i < 2 ^ 31 by omega)] <;> rfl) ?_
        refine lv_if_le (tgt := 91) hx hb dX3_ticks_84 (by decide) (fun c_84 => ?_) (fun c_84 => ?_)
        · skip
          refine lv_aload_n hx hb dX3_ticks_91 rfl (lv_at hl 0 rfl) ?_
          refine va_get (D := D) (ci := 2) (v := .ref (am 8)) (C := RX3) (T := TX3) (N := 19) hx hb hts hinM hown hK T.1 0 rfl rfl 11 (by decide) (hts _ (List.mem_cons_of_mem _ k3_f35)) (fun _ h9 => h9) rfl dX3_ticks_92 ?_
          refine lv_iload_n hx hb dX3_ticks_95 rfl (lv_at hl 3 rfl) ?_
          have h_96 : vp_in (nI i) 32 := vp_in_nI (show i < 32 by omega) (by decide)
          refine va_iald hx hb hK T.1 9 9 rfl rfl h_96 dX3_ticks_96 ?_
          refine W.eq (g2 := F0 m 97 ls [.int ((up2 S i 10 ((S i 10) - 1)) i 8), .int (nI i), .ref (am 9)]) (by rw [nI_clamp (show i < 2 ^ 31 by omega)] <;> rfl) ?_
          refine lv_if_ne (tgt := 104) hx hb dX3_ticks_97 (by decide) (fun c_97 => ?_) (fun c_97 => ?_)
          · skip
            refine lv_iconst (v := 1) hx hb dX3_ticks_104 (by decide) ?_
            have h_105 : vp_in (nI i) 32 := vp_in_nI (show i < 32 by omega) (by decide)
            refine va_iast (x := 1) hx hb hK T.1 T.2.1 T.2.2 10 10 rfl rfl h_105 dX3_ticks_105 (fun H locs hP hD hS => ?_)
            rw [nI_clamp (show i < 2 ^ 31 by omega)] at hP hD
            have T := md_set9 (i := i) (v := 1) ⟨hP, hD, hS⟩
            refine lv_goto (tgt := 123) hx hb dX3_ticks_106 (by decide) ?_
            refine lv_iinc (v := nI (i + 1)) (lv' := [(3, .int (nI (i + 1))), (0, .ref o), (1, .int x1), (2, .int x2)]) hx hb dX3_ticks_123 hl (k := 3) rfl (nI_1 i) (by decide) rfl (fun ls hl => ?_)
            refine lv_goto (tgt := 37) hx hb dX3_ticks_126 (by decide) ?_
            rw [show sm_ticks_inner (k + 1) i G S = sm_ticks_inner k (i + 1) G (up2 (up2 S i 10 ((S i 10) - 1)) i 9 1) from by rw [sm_ticks_inner]; simp only [if_neg c_51, if_neg c_60, if_pos c_84, if_neg c_97]] at hout
            exact ih (i + 1) _ _ (by omega) hG _ _ _ T (lv_sub hl [1, 2, 3, 0] rfl) hout
          · skip
            refine lv_iconst (v := (-1)) hx hb dX3_ticks_100 (by decide) ?_
            refine lv_goto (tgt := 105) hx hb dX3_ticks_101 (by decide) ?_
            have h_105 : vp_in (nI i) 32 := vp_in_nI (show i < 32 by omega) (by decide)
            refine va_iast (x := (-1)) hx hb hK T.1 T.2.1 T.2.2 10 10 rfl rfl h_105 dX3_ticks_105 (fun H locs hP hD hS => ?_)
            rw [nI_clamp (show i < 2 ^ 31 by omega)] at hP hD
            have T := md_set9 (i := i) (v := (-1)) ⟨hP, hD, hS⟩
            refine lv_goto (tgt := 123) hx hb dX3_ticks_106 (by decide) ?_
            refine lv_iinc (v := nI (i + 1)) (lv' := [(3, .int (nI (i + 1))), (0, .ref o), (1, .int x1), (2, .int x2)]) hx hb dX3_ticks_123 hl (k := 3) rfl (nI_1 i) (by decide) rfl (fun ls hl => ?_)
            refine lv_goto (tgt := 37) hx hb dX3_ticks_126 (by decide) ?_
            rw [show sm_ticks_inner (k + 1) i G S = sm_ticks_inner k (i + 1) G (up2 (up2 S i 10 ((S i 10) - 1)) i 9 (-1)) from by rw [sm_ticks_inner]; simp only [if_neg c_51, if_neg c_60, if_pos c_84, if_pos c_97]] at hout
            exact ih (i + 1) _ _ (by omega) hG _ _ _ T (lv_sub hl [1, 2, 3, 0] rfl) hout
        · skip
          refine lv_iconst (v := 0) hx hb dX3_ticks_87 (by decide) ?_
          refine lv_goto (tgt := 105) hx hb dX3_ticks_88 (by decide) ?_
          have h_105 : vp_in (nI i) 32 := vp_in_nI (show i < 32 by omega) (by decide)
          refine va_iast (x := 0) hx hb hK T.1 T.2.1 T.2.2 10 10 rfl rfl h_105 dX3_ticks_105 (fun H locs hP hD hS => ?_)
          rw [nI_clamp (show i < 2 ^ 31 by omega)] at hP hD
          have T := md_set9 (i := i) (v := 0) ⟨hP, hD, hS⟩
          refine lv_goto (tgt := 123) hx hb dX3_ticks_106 (by decide) ?_
          refine lv_iinc (v := nI (i + 1)) (lv' := [(3, .int (nI (i + 1))), (0, .ref o), (1, .int x1), (2, .int x2)]) hx hb dX3_ticks_123 hl (k := 3) rfl (nI_1 i) (by decide) rfl (fun ls hl => ?_)
          refine lv_goto (tgt := 37) hx hb dX3_ticks_126 (by decide) ?_
          rw [show sm_ticks_inner (k + 1) i G S = sm_ticks_inner k (i + 1) G (up2 (up2 S i 10 ((S i 10) - 1)) i 9 0) from by rw [sm_ticks_inner]; simp only [if_neg c_51, if_neg c_60, if_neg c_84]] at hout
          exact ih (i + 1) _ _ (by omega) hG _ _ _ T (lv_sub hl [1, 2, 3, 0] rfl) hout
/-- ticks: its loop, by what is left to do -/
def sm_ticks_loop (n : Nat) : Nat → Nat → (Nat → Int32) → (Nat → Nat → Int32) → Int32 × (Nat → Int32) × (Nat → Nat → Int32)
  | 0, _, G, S => (G 2, G, S)
  | k + 1, i, G, S => sm_ticks_loop n k (i + 1) ((sm_ticks_inner n 0 (upd G 2 ((G 2) + 1)) S).1) ((sm_ticks_inner n 0 (upd G 2 ((G 2) + 1)) S).2)
set_option maxHeartbeats 4000000 in
set_option maxRecDepth 100000 in
theorem lp_m_ticks {p : Program} {e : Env} {s : State} {m : MethodId} {args : Array Value} {below : List Frame} {meth : Method} {c : Code} {A : Nat → Prop}   {N : Nat} (hN1 : N ≤ 1000) (C : hw_C p s m args meth c cX3_ticks (some .int) 4 wsX3_ticks yX3_ticks.cls D (t0 :: md_tys cm) A) :
    ∀ (k i : Nat) (G : Nat → Int32) (S : Nat → Nat → Int32), i + k = N → hg_n G n → ∀ (ls : Array Slot) (H : Heap) (locs : List Loc), hw_T D A s.heap (md_W o am cm G S B) H locs → lv_has ls 4 [(0, .ref o), (1, .int (nI N)), (2, .int (nI i))] → W p l e { frames := 3, cells := 0, slots := 0, locals := 66 } s m args below meth c H locs 0 0 (MQ below (va_Qi (fun (r' : Int32) (_ : Unit) => r' = (sm_ticks_loop n k i G S).1) (fun _ t => va_P D vwCl (md_W o am cm (sm_ticks_loop n k i G S).2.1 (sm_ticks_loop n k i G S).2.2 B) t.heap) A) args s 0 0 A) (F0 m 20 ls []) := by
  have hx := C.1.1
  have hb := C.1.2.1
  have hml := C.1.2.2.1
  have hown : s.vm.findClass RX3 = some m.cls := C.1.2.2.2.1
  have hts := C.1.2.2.2.2
  have hK := C.2.2.2.1
  have hinM : ∀ w ∈ wsX30, w ∈ wsX3_ticks := fun w h => List.mem_cons_of_mem _ (inX3 w h)
  intro k
  induction k with
  | zero =>
    intro i G S hik hG ls H locs T hl
    have hn32 := hG.1
    refine lv_iload_n hx hb dX3_ticks_20 rfl (lv_at hl 2 rfl) ?_
    refine lv_iload_n hx hb dX3_ticks_21 rfl (lv_at hl 1 rfl) ?_
    refine lv_icmp_ge (tgt := 135) hx hb dX3_ticks_22 (by decide) (fun c_22 => ?_) (fun c_22 => absurd (show nI N ≤ nI i from nI_le (show N ≤ i by omega) (by omega)) c_22)
    refine lv_aload_n hx hb dX3_ticks_135 rfl (lv_at hl 0 rfl) ?_
    refine va_get (D := D) (ci := 2) (v := .int (G 2)) (C := RX3) (T := TX3) (N := 19) hx hb hts hinM hown hK T.1 0 rfl rfl 16 (by decide) (hts _ (List.mem_cons_of_mem _ k3_f70)) (fun _ h9 => h9) rfl dX3_ticks_136 ?_
    have e9 : sm_ticks_loop n 0 i G S = (G 2, G, S) := by rw [sm_ticks_loop]
    exact hw_iret C T rfl (by rw [e9]) (by rw [e9]) dX3_ticks_139
  | succ k ih =>
    intro i G S hik hG ls H locs T hl
    have hn32 := hG.1
    refine lv_iload_n hx hb dX3_ticks_20 rfl (lv_at hl 2 rfl) ?_
    refine lv_iload_n hx hb dX3_ticks_21 rfl (lv_at hl 1 rfl) ?_
    refine lv_icmp_ge (tgt := 135) hx hb dX3_ticks_22 (by decide) (fun c_22 => absurd c_22 (show ¬ nI N ≤ nI i from nI_ge (show i < N by omega) (by omega))) (fun c_22 => ?_)
    refine lv_aload_n hx hb dX3_ticks_25 rfl (lv_at hl 0 rfl) ?_
    refine lv_dup hx hb dX3_ticks_26 rfl ?_
    refine va_get (D := D) (ci := 2) (v := .int (G 2)) (C := RX3) (T := TX3) (N := 19) hx hb hts hinM hown hK T.1 0 rfl rfl 16 (by decide) (hts _ (List.mem_cons_of_mem _ k3_f70)) (fun _ h9 => h9) rfl dX3_ticks_27 ?_
    refine lv_iconst (v := 1) hx hb dX3_ticks_30 (by decide) ?_
    refine lv_iadd hx hb dX3_ticks_31 ?_
    refine va_put (D := D) (ci := 2) (v := .int ((G 2) + 1)) (ty := .int) (C := RX3) (T := TX3) (N := 19) hx hb hts hinM tyX3 tyX3_ok nmX3 hown hK T.1 T.2.1 T.2.2 0 rfl rfl 16 (by decide) (hts _ (List.mem_cons_of_mem _ k3_f70)) (fun _ h9 => h9) rfl (by decide +kernel) rfl rfl (Nat.le_of_ble_eq_true rfl) dX3_ticks_32 (fun H locs hP hD hS => ?_)
    have T := md_setG (k := 2) (v := (G 2) + 1) (kk := 16) rfl ⟨hP, hD, hS⟩
    refine lv_iconst (v := 0) hx hb dX3_ticks_35 (by decide) ?_
    refine lv_istore_n (lv' := [(3, .int 0), (0, .ref o), (1, .int (nI N)), (2, .int (nI i))]) hx hb dX3_ticks_36 rfl hl (by decide) rfl (fun ls hl => ?_)
    refine lp_m_ticks_inner C n 0 _ _ (by omega) (hg_up (by decide) hG) _ _ _ T (lv_sub hl [1, 2, 3, 0] rfl) (fun ls H locs T hl => ?_)
    refine lv_iinc (v := nI (i + 1)) (lv' := [(2, .int (nI (i + 1))), (0, .ref o), (1, .int (nI N))]) hx hb dX3_ticks_129 hl (k := 2) rfl (nI_1 i) (by decide) rfl (fun ls hl => ?_)
    refine lv_goto (tgt := 20) hx hb dX3_ticks_132 (by decide) ?_
    rw [show sm_ticks_loop n (k + 1) i G S = sm_ticks_loop n k (i + 1) ((sm_ticks_inner n 0 (upd G 2 ((G 2) + 1)) S).1) ((sm_ticks_inner n 0 (upd G 2 ((G 2) + 1)) S).2) from by rw [sm_ticks_loop]]
    exact ih (i + 1) _ _ (by omega) (sm_ticks_inner_n (hg_up (by decide) hG)) _ _ _ T (lv_sub hl [1, 2, 0] rfl)
/-- ticks, its picture -/
def sm_ticks (G : Nat → Int32) (S : Nat → Nat → Int32) (n : Nat) (x1 : Int32) : Int32 × (Nat → Int32) × (Nat → Nat → Int32) := if x1 < 0 then ((-1), upd G 3 0, S) else (if x1 ≤ 1000 then (sm_ticks_loop n x1.toNatClampNeg 0 (upd G 3 0) S) else ((-1), upd G 3 0, S))
set_option maxHeartbeats 4000000 in
set_option maxRecDepth 100000 in
theorem c_M_ticks {x1 : Int32} (hG : hg_n G n) : MI l D (t0 :: md_tys cm) yX3_ticks wsX3_ticks { frames := 3, cells := 0, slots := 0, locals := 66 } [.ref o, .int x1] (md_W o am cm G S B) ((sm_ticks G S n x1).1) (md_W o am cm (sm_ticks G S n x1).2.1 (sm_ticks G S n x1).2.2 B) := by
  refine MI.start (cc := cX3_ticks) (maxL := 4) (by decide) rfl (Nat.le_of_ble_eq_true rfl) (fun p e s m args below meth c A ls C T hl => ?_)
  have hx := C.1.1
  have hb := C.1.2.1
  have hml := C.1.2.2.1
  have hown : s.vm.findClass RX3 = some m.cls := C.1.2.2.2.1
  have hts := C.1.2.2.2.2
  have hK := C.2.2.2.1
  have hinM : ∀ w ∈ wsX30, w ∈ wsX3_ticks := fun w h => List.mem_cons_of_mem _ (inX3 w h)
  have hn32 := hG.1
  have hl : lv_has ls 4 [(0, .ref o), (1, .int x1)] := hl
  refine lv_aload_n hx hb dX3_ticks_0 rfl (lv_at hl 0 rfl) ?_
  refine lv_iconst (v := 0) hx hb dX3_ticks_1 (by decide) ?_
  refine va_put (D := D) (ci := 2) (v := .int 0) (ty := .int) (C := RX3) (T := TX3) (N := 19) hx hb hts hinM tyX3 tyX3_ok nmX3 hown hK T.1 T.2.1 T.2.2 0 rfl rfl 0 (by decide) (hts _ (List.mem_cons_of_mem _ k3_f54)) (fun _ h9 => h9) rfl (by decide +kernel) rfl rfl (Nat.le_of_ble_eq_true rfl) dX3_ticks_2 (fun H locs hP hD hS => ?_)
  have T := md_setG (k := 3) (v := 0) (kk := 0) rfl ⟨hP, hD, hS⟩
  refine lv_iload_n hx hb dX3_ticks_5 rfl (lv_at hl 1 rfl) ?_
  refine lv_if_lt (tgt := 16) hx hb dX3_ticks_6 (by decide) (fun c_6 => ?_) (fun c_6 => ?_)
  · skip
    refine lv_iconst (v := (-1)) hx hb dX3_ticks_16 (by decide) ?_
    have e9 : sm_ticks G S n x1 = ((-1), upd G 3 0, S) := by unfold sm_ticks; simp only [if_pos c_6]
    exact hw_iret C T rfl (by rw [e9]) (by rw [e9]) dX3_ticks_17
  · skip
    refine lv_iload_n hx hb dX3_ticks_9 rfl (lv_at hl 1 rfl) ?_
    refine lv_sipush (v := 1000) hx hb dX3_ticks_10 (by decide) ?_
    refine lv_icmp_le (tgt := 18) hx hb dX3_ticks_13 (by decide) (fun c_13 => ?_) (fun c_13 => ?_)
    · skip
      refine lv_iconst (v := 0) hx hb dX3_ticks_18 (by decide) ?_
      refine lv_istore_n (lv' := [(2, .int 0), (0, .ref o), (1, .int x1)]) hx hb dX3_ticks_19 rfl hl (by decide) rfl (fun ls hl => ?_)
      obtain ⟨N, hN1, rfl⟩ := nI_of2 (M := 1000) (n := 1000) (by decide) c_6 c_13
      rw [show sm_ticks G S n (nI N) = sm_ticks_loop n N 0 (upd G 3 0) S from by unfold sm_ticks; simp only [if_neg c_6, if_pos c_13, nI_clamp (show N < 2 ^ 31 by omega)]]
      exact lp_m_ticks hN1 C N 0 _ _ (by omega) (hg_up (by decide) hG) _ _ _ T (lv_sub hl [1, 2, 0] rfl)
    · skip
      refine lv_iconst (v := (-1)) hx hb dX3_ticks_16 (by decide) ?_
      have e9 : sm_ticks G S n x1 = ((-1), upd G 3 0, S) := by unfold sm_ticks; simp only [if_neg c_6, if_neg c_13]
      exact hw_iret C T rfl (by rw [e9]) (by rw [e9]) dX3_ticks_17
/-- of, its picture -/
def sm_of (G : Nat → Int32) (S : Nat → Nat → Int32) (B : Nat → Int32) (n : Nat) (x1 : Int32) (x2 : Int32) : Int32 × (Nat → Int32) := if (sm_isSector (upd G 3 0) x1) = 0 then (100000, upd G 3 0) else (if x2 = 0 then (S x1.toNatClampNeg 6, upd G 3 0) else (if x2 = 1 then (S x1.toNatClampNeg 7, upd G 3 0) else (if x2 = 2 then (sm_lightOf (upd G 3 0) S n x1, upd G 3 0) else (if x2 = 3 then (S x1.toNatClampNeg 8, upd G 3 0) else (if x2 = 4 then (S x1.toNatClampNeg 9, upd G 3 0) else (if x2 = 5 then (S x1.toNatClampNeg 10, upd G 3 0) else (if x2 = 6 then (sm_lowFloor S B n x1, upd G 3 0) else (if x2 = 7 then (sm_highFloor S B n x1, upd G 3 0) else (if x2 = 8 then (sm_lowCeiling S B n x1, upd G 3 0) else (if x2 = 9 then (S x1.toNatClampNeg 11, upd G 3 0) else (100000, upd G 3 0)))))))))))
set_option maxHeartbeats 4000000 in
set_option maxRecDepth 100000 in
theorem c_M_of {x1 : Int32} {x2 : Int32} (hG : hg_n G n) : MI l D (t0 :: md_tys cm) yX3_of wsX3_of { frames := 2, cells := 0, slots := 0, locals := 45 } [.ref o, .int x1, .int x2] (md_W o am cm G S B) ((sm_of G S B n x1 x2).1) (md_W o am cm (sm_of G S B n x1 x2).2 S B) := by
  refine MI.start (cc := cX3_of) (maxL := 3) (by decide) rfl (Nat.le_of_ble_eq_true rfl) (fun p e s m args below meth c A ls C T hl => ?_)
  have hx := C.1.1
  have hb := C.1.2.1
  have hml := C.1.2.2.1
  have hown : s.vm.findClass RX3 = some m.cls := C.1.2.2.2.1
  have hts := C.1.2.2.2.2
  have hK := C.2.2.2.1
  have hinM : ∀ w ∈ wsX30, w ∈ wsX3_of := fun w h => List.mem_cons_of_mem _ (inX3 w h)
  have hn32 := hG.1
  have hl : lv_has ls 3 [(0, .ref o), (1, .int x1), (2, .int x2)] := hl
  refine lv_aload_n hx hb dX3_of_0 rfl (lv_at hl 0 rfl) ?_
  refine lv_iconst (v := 0) hx hb dX3_of_1 (by decide) ?_
  refine va_put (D := D) (ci := 2) (v := .int 0) (ty := .int) (C := RX3) (T := TX3) (N := 19) hx hb hts hinM tyX3 tyX3_ok nmX3 hown hK T.1 T.2.1 T.2.2 0 rfl rfl 0 (by decide) (hts _ (List.mem_cons_of_mem _ k3_f54)) (fun _ h9 => h9) rfl (by decide +kernel) rfl rfl (Nat.le_of_ble_eq_true rfl) dX3_of_2 (fun H locs hP hD hS => ?_)
  have T := md_setG (k := 3) (v := 0) (kk := 0) rfl ⟨hP, hD, hS⟩
  refine lv_aload_n hx hb dX3_of_5 rfl (lv_at hl 0 rfl) ?_
  refine lv_iload_n hx hb dX3_of_6 rfl (lv_at hl 1 rfl) ?_
  refine hw_Vi (As := [.int x1]) (rest := []) C T (c_M_isSector) (cwV 1 hts (x3_in k3_m63 k3_i_isSector k3_s_isSector k3_ini k3_c_isSector) rfl rfl rfl (by decide +kernel) ⟨Nat.le_of_ble_eq_true rfl, Nat.le_of_ble_eq_true rfl⟩) md_isO md_ad rfl hl.1 rfl (Nat.le_of_ble_eq_true rfl) dX3_of_7 ⟨Nat.zero_le _, Nat.zero_le _⟩ (fun H locs T => ?_)
  refine lv_if_ne (tgt := 16) hx hb dX3_of_10 (by decide) (fun c_10 => ?_) (fun c_10 => ?_)
  · skip
    refine lv_iload_n hx hb dX3_of_16 rfl (lv_at hl 2 rfl) ?_
    by_cases c_17_0 : x2 = 0
    · skip
      refine lv_tableIn (off := 55) (tgt := 72) hx hb dX3_of_17 (by rw [c_17_0]; decide) (by rw [c_17_0]; decide) (by rw [c_17_0]; decide +kernel) (by decide) ?_
      refine lv_aload_n hx hb dX3_of_72 rfl (lv_at hl 0 rfl) ?_
      refine va_get (D := D) (ci := 2) (v := .ref (am 6)) (C := RX3) (T := TX3) (N := 19) hx hb hts hinM hown hK T.1 0 rfl rfl 9 (by decide) (hts _ (List.mem_cons_of_mem _ k3_f29)) (fun _ h9 => h9) rfl dX3_of_73 ?_
      refine lv_iload_n hx hb dX3_of_76 rfl (lv_at hl 1 rfl) ?_
      have h_77 : vp_in x1 32 := (mx_in (hg_up (by decide) hG) c_10)
      refine va_iald hx hb hK T.1 7 7 rfl rfl h_77 dX3_of_77 ?_
      refine W.eq (g2 := F0 m 78 ls [.int (S x1.toNatClampNeg 6)]) rfl ?_
      have e9 : sm_of G S B n x1 x2 = (S x1.toNatClampNeg 6, upd G 3 0) := by unfold sm_of; simp only [if_neg c_10, if_pos c_17_0]
      exact hw_iret C T rfl (by rw [e9]) (by rw [e9]) dX3_of_78
    · skip
      by_cases c_17_1 : x2 = 1
      · skip
        refine lv_tableIn (off := 62) (tgt := 79) hx hb dX3_of_17 (by rw [c_17_1]; decide) (by rw [c_17_1]; decide) (by rw [c_17_1]; decide +kernel) (by decide) ?_
        refine lv_aload_n hx hb dX3_of_79 rfl (lv_at hl 0 rfl) ?_
        refine va_get (D := D) (ci := 2) (v := .ref (am 7)) (C := RX3) (T := TX3) (N := 19) hx hb hts hinM hown hK T.1 0 rfl rfl 10 (by decide) (hts _ (List.mem_cons_of_mem _ k3_f32)) (fun _ h9 => h9) rfl dX3_of_80 ?_
        refine lv_iload_n hx hb dX3_of_83 rfl (lv_at hl 1 rfl) ?_
        have h_84 : vp_in x1 32 := (mx_in (hg_up (by decide) hG) c_10)
        refine va_iald hx hb hK T.1 8 8 rfl rfl h_84 dX3_of_84 ?_
        refine W.eq (g2 := F0 m 85 ls [.int (S x1.toNatClampNeg 7)]) rfl ?_
        have e9 : sm_of G S B n x1 x2 = (S x1.toNatClampNeg 7, upd G 3 0) := by unfold sm_of; simp only [if_neg c_10, if_neg c_17_0, if_pos c_17_1]
        exact hw_iret C T rfl (by rw [e9]) (by rw [e9]) dX3_of_85
      · skip
        by_cases c_17_2 : x2 = 2
        · skip
          refine lv_tableIn (off := 69) (tgt := 86) hx hb dX3_of_17 (by rw [c_17_2]; decide) (by rw [c_17_2]; decide) (by rw [c_17_2]; decide +kernel) (by decide) ?_
          refine lv_aload_n hx hb dX3_of_86 rfl (lv_at hl 0 rfl) ?_
          refine lv_iload_n hx hb dX3_of_87 rfl (lv_at hl 1 rfl) ?_
          refine hw_Vi (As := [.int x1]) (rest := []) C T (c_M_lightOf (mx_in (hg_up (by decide) hG) c_10) (hg_up (by decide) hG)) (cwV 1 hts (x3_in k3_m113 k3_i_lightOf k3_s_lightOf k3_ini k3_c_lightOf) rfl rfl rfl (by decide +kernel) ⟨Nat.le_of_ble_eq_true rfl, Nat.le_of_ble_eq_true rfl⟩) md_isO md_ad rfl hl.1 rfl (Nat.le_of_ble_eq_true rfl) dX3_of_88 ⟨Nat.zero_le _, Nat.zero_le _⟩ (fun H locs T => ?_)
          have e9 : sm_of G S B n x1 x2 = (sm_lightOf (upd G 3 0) S n x1, upd G 3 0) := by unfold sm_of; simp only [if_neg c_10, if_neg c_17_0, if_neg c_17_1, if_pos c_17_2]
          exact hw_iret C T rfl (by rw [e9]) (by rw [e9]) dX3_of_91
        · skip
          by_cases c_17_3 : x2 = 3
          · skip
            refine lv_tableIn (off := 75) (tgt := 92) hx hb dX3_of_17 (by rw [c_17_3]; decide) (by rw [c_17_3]; decide) (by rw [c_17_3]; decide +kernel) (by decide) ?_
            refine lv_aload_n hx hb dX3_of_92 rfl (lv_at hl 0 rfl) ?_
            refine va_get (D := D) (ci := 2) (v := .ref (am 8)) (C := RX3) (T := TX3) (N := 19) hx hb hts hinM hown hK T.1 0 rfl rfl 11 (by decide) (hts _ (List.mem_cons_of_mem _ k3_f35)) (fun _ h9 => h9) rfl dX3_of_93 ?_
            refine lv_iload_n hx hb dX3_of_96 rfl (lv_at hl 1 rfl) ?_
            have h_97 : vp_in x1 32 := (mx_in (hg_up (by decide) hG) c_10)
            refine va_iald hx hb hK T.1 9 9 rfl rfl h_97 dX3_of_97 ?_
            refine W.eq (g2 := F0 m 98 ls [.int (S x1.toNatClampNeg 8)]) rfl ?_
            have e9 : sm_of G S B n x1 x2 = (S x1.toNatClampNeg 8, upd G 3 0) := by unfold sm_of; simp only [if_neg c_10, if_neg c_17_0, if_neg c_17_1, if_neg c_17_2, if_pos c_17_3]
            exact hw_iret C T rfl (by rw [e9]) (by rw [e9]) dX3_of_98
          · skip
            by_cases c_17_4 : x2 = 4
            · skip
              refine lv_tableIn (off := 82) (tgt := 99) hx hb dX3_of_17 (by rw [c_17_4]; decide) (by rw [c_17_4]; decide) (by rw [c_17_4]; decide +kernel) (by decide) ?_
              refine lv_aload_n hx hb dX3_of_99 rfl (lv_at hl 0 rfl) ?_
              refine va_get (D := D) (ci := 2) (v := .ref (am 9)) (C := RX3) (T := TX3) (N := 19) hx hb hts hinM hown hK T.1 0 rfl rfl 12 (by decide) (hts _ (List.mem_cons_of_mem _ k3_f38)) (fun _ h9 => h9) rfl dX3_of_100 ?_
              refine lv_iload_n hx hb dX3_of_103 rfl (lv_at hl 1 rfl) ?_
              have h_104 : vp_in x1 32 := (mx_in (hg_up (by decide) hG) c_10)
              refine va_iald hx hb hK T.1 10 10 rfl rfl h_104 dX3_of_104 ?_
              refine W.eq (g2 := F0 m 105 ls [.int (S x1.toNatClampNeg 9)]) rfl ?_
              have e9 : sm_of G S B n x1 x2 = (S x1.toNatClampNeg 9, upd G 3 0) := by unfold sm_of; simp only [if_neg c_10, if_neg c_17_0, if_neg c_17_1, if_neg c_17_2, if_neg c_17_3, if_pos c_17_4]
              exact hw_iret C T rfl (by rw [e9]) (by rw [e9]) dX3_of_105
            · skip
              by_cases c_17_5 : x2 = 5
              · skip
                refine lv_tableIn (off := 89) (tgt := 106) hx hb dX3_of_17 (by rw [c_17_5]; decide) (by rw [c_17_5]; decide) (by rw [c_17_5]; decide +kernel) (by decide) ?_
                refine lv_aload_n hx hb dX3_of_106 rfl (lv_at hl 0 rfl) ?_
                refine va_get (D := D) (ci := 2) (v := .ref (am 10)) (C := RX3) (T := TX3) (N := 19) hx hb hts hinM hown hK T.1 0 rfl rfl 13 (by decide) (hts _ (List.mem_cons_of_mem _ k3_f41)) (fun _ h9 => h9) rfl dX3_of_107 ?_
                refine lv_iload_n hx hb dX3_of_110 rfl (lv_at hl 1 rfl) ?_
                have h_111 : vp_in x1 32 := (mx_in (hg_up (by decide) hG) c_10)
                refine va_iald hx hb hK T.1 11 11 rfl rfl h_111 dX3_of_111 ?_
                refine W.eq (g2 := F0 m 112 ls [.int (S x1.toNatClampNeg 10)]) rfl ?_
                have e9 : sm_of G S B n x1 x2 = (S x1.toNatClampNeg 10, upd G 3 0) := by unfold sm_of; simp only [if_neg c_10, if_neg c_17_0, if_neg c_17_1, if_neg c_17_2, if_neg c_17_3, if_neg c_17_4, if_pos c_17_5]
                exact hw_iret C T rfl (by rw [e9]) (by rw [e9]) dX3_of_112
              · skip
                by_cases c_17_6 : x2 = 6
                · skip
                  refine lv_tableIn (off := 96) (tgt := 113) hx hb dX3_of_17 (by rw [c_17_6]; decide) (by rw [c_17_6]; decide) (by rw [c_17_6]; decide +kernel) (by decide) ?_
                  refine lv_aload_n hx hb dX3_of_113 rfl (lv_at hl 0 rfl) ?_
                  refine lv_iload_n hx hb dX3_of_114 rfl (lv_at hl 1 rfl) ?_
                  refine hw_Vi (As := [.int x1]) (rest := []) C T (c_M_lowFloor (mx_in (hg_up (by decide) hG) c_10) (hg_up (by decide) hG)) (cwV 1 hts (x3_in k3_m84 k3_i_lowFloor k3_s_lowFloor k3_ini k3_c_lowFloor) rfl rfl rfl (by decide +kernel) ⟨Nat.le_of_ble_eq_true rfl, Nat.le_of_ble_eq_true rfl⟩) md_isO md_ad rfl hl.1 rfl (Nat.le_of_ble_eq_true rfl) dX3_of_115 ⟨Nat.zero_le _, Nat.zero_le _⟩ (fun H locs T => ?_)
                  have e9 : sm_of G S B n x1 x2 = (sm_lowFloor S B n x1, upd G 3 0) := by unfold sm_of; simp only [if_neg c_10, if_neg c_17_0, if_neg c_17_1, if_neg c_17_2, if_neg c_17_3, if_neg c_17_4, if_neg c_17_5, if_pos c_17_6]
                  exact hw_iret C T rfl (by rw [e9]) (by rw [e9]) dX3_of_118
                · skip
                  by_cases c_17_7 : x2 = 7
                  · skip
                    refine lv_tableIn (off := 102) (tgt := 119) hx hb dX3_of_17 (by rw [c_17_7]; decide) (by rw [c_17_7]; decide) (by rw [c_17_7]; decide +kernel) (by decide) ?_
                    refine lv_aload_n hx hb dX3_of_119 rfl (lv_at hl 0 rfl) ?_
                    refine lv_iload_n hx hb dX3_of_120 rfl (lv_at hl 1 rfl) ?_
                    refine hw_Vi (As := [.int x1]) (rest := []) C T (c_M_highFloor (mx_in (hg_up (by decide) hG) c_10) (hg_up (by decide) hG)) (cwV 1 hts (x3_in k3_m81 k3_i_highFloor k3_s_highFloor k3_ini k3_c_highFloor) rfl rfl rfl (by decide +kernel) ⟨Nat.le_of_ble_eq_true rfl, Nat.le_of_ble_eq_true rfl⟩) md_isO md_ad rfl hl.1 rfl (Nat.le_of_ble_eq_true rfl) dX3_of_121 ⟨Nat.zero_le _, Nat.zero_le _⟩ (fun H locs T => ?_)
                    have e9 : sm_of G S B n x1 x2 = (sm_highFloor S B n x1, upd G 3 0) := by unfold sm_of; simp only [if_neg c_10, if_neg c_17_0, if_neg c_17_1, if_neg c_17_2, if_neg c_17_3, if_neg c_17_4, if_neg c_17_5, if_neg c_17_6, if_pos c_17_7]
                    exact hw_iret C T rfl (by rw [e9]) (by rw [e9]) dX3_of_124
                  · skip
                    by_cases c_17_8 : x2 = 8
                    · skip
                      refine lv_tableIn (off := 108) (tgt := 125) hx hb dX3_of_17 (by rw [c_17_8]; decide) (by rw [c_17_8]; decide) (by rw [c_17_8]; decide +kernel) (by decide) ?_
                      refine lv_aload_n hx hb dX3_of_125 rfl (lv_at hl 0 rfl) ?_
                      refine lv_iload_n hx hb dX3_of_126 rfl (lv_at hl 1 rfl) ?_
                      refine hw_Vi (As := [.int x1]) (rest := []) C T (c_M_lowCeiling (mx_in (hg_up (by decide) hG) c_10) (hg_up (by decide) hG)) (cwV 1 hts (x3_in k3_m77 k3_i_lowCeiling k3_s_lowCeiling k3_ini k3_c_lowCeiling) rfl rfl rfl (by decide +kernel) ⟨Nat.le_of_ble_eq_true rfl, Nat.le_of_ble_eq_true rfl⟩) md_isO md_ad rfl hl.1 rfl (Nat.le_of_ble_eq_true rfl) dX3_of_127 ⟨Nat.zero_le _, Nat.zero_le _⟩ (fun H locs T => ?_)
                      have e9 : sm_of G S B n x1 x2 = (sm_lowCeiling S B n x1, upd G 3 0) := by unfold sm_of; simp only [if_neg c_10, if_neg c_17_0, if_neg c_17_1, if_neg c_17_2, if_neg c_17_3, if_neg c_17_4, if_neg c_17_5, if_neg c_17_6, if_neg c_17_7, if_pos c_17_8]
                      exact hw_iret C T rfl (by rw [e9]) (by rw [e9]) dX3_of_130
                    · skip
                      by_cases c_17_9 : x2 = 9
                      · skip
                        refine lv_tableIn (off := 114) (tgt := 131) hx hb dX3_of_17 (by rw [c_17_9]; decide) (by rw [c_17_9]; decide) (by rw [c_17_9]; decide +kernel) (by decide) ?_
                        refine lv_aload_n hx hb dX3_of_131 rfl (lv_at hl 0 rfl) ?_
                        refine va_get (D := D) (ci := 2) (v := .ref (am 11)) (C := RX3) (T := TX3) (N := 19) hx hb hts hinM hown hK T.1 0 rfl rfl 14 (by decide) (hts _ (List.mem_cons_of_mem _ k3_f44)) (fun _ h9 => h9) rfl dX3_of_132 ?_
                        refine lv_iload_n hx hb dX3_of_135 rfl (lv_at hl 1 rfl) ?_
                        have h_136 : vp_in x1 32 := (mx_in (hg_up (by decide) hG) c_10)
                        refine va_iald hx hb hK T.1 12 12 rfl rfl h_136 dX3_of_136 ?_
                        refine W.eq (g2 := F0 m 137 ls [.int (S x1.toNatClampNeg 11)]) rfl ?_
                        have e9 : sm_of G S B n x1 x2 = (S x1.toNatClampNeg 11, upd G 3 0) := by unfold sm_of; simp only [if_neg c_10, if_neg c_17_0, if_neg c_17_1, if_neg c_17_2, if_neg c_17_3, if_neg c_17_4, if_neg c_17_5, if_neg c_17_6, if_neg c_17_7, if_neg c_17_8, if_pos c_17_9]
                        exact hw_iret C T rfl (by rw [e9]) (by rw [e9]) dX3_of_137
                      · skip
                        refine lv_tableOut (tgt := 138) hx hb dX3_of_17 (by have z0 := lv_neT (a := 0) c_17_0 (by decide); have z1 := lv_neT (a := 1) c_17_1 (by decide); have z2 := lv_neT (a := 2) c_17_2 (by decide); have z3 := lv_neT (a := 3) c_17_3 (by decide); have z4 := lv_neT (a := 4) c_17_4 (by decide); have z5 := lv_neT (a := 5) c_17_5 (by decide); have z6 := lv_neT (a := 6) c_17_6 (by decide); have z7 := lv_neT (a := 7) c_17_7 (by decide); have z8 := lv_neT (a := 8) c_17_8 (by decide); have z9 := lv_neT (a := 9) c_17_9 (by decide); omega) (by decide) ?_
                        refine lv_ldc (v := 100000) hx hb hown (hts (.constant RX3 76 100000) (List.mem_cons_of_mem _ k3_k76)) dX3_of_138 ?_
                        have e9 : sm_of G S B n x1 x2 = (100000, upd G 3 0) := by unfold sm_of; simp only [if_neg c_10, if_neg c_17_0, if_neg c_17_1, if_neg c_17_2, if_neg c_17_3, if_neg c_17_4, if_neg c_17_5, if_neg c_17_6, if_neg c_17_7, if_neg c_17_8, if_neg c_17_9]
                        exact hw_iret C T rfl (by rw [e9]) (by rw [e9]) dX3_of_140
  · skip
    refine lv_ldc (v := 100000) hx hb hown (hts (.constant RX3 76 100000) (List.mem_cons_of_mem _ k3_k76)) dX3_of_13 ?_
    have e9 : sm_of G S B n x1 x2 = (100000, upd G 3 0) := by unfold sm_of; simp only [if_pos c_10]
    exact hw_iret C T rfl (by rw [e9]) (by rw [e9]) dX3_of_15
/-- are, its picture -/
def sm_are (G : Nat → Int32) (B : Nat → Int32) (x1 : Int32) (x2 : Int32) : Int32 × (Nat → Int32) := if (sm_isSector (upd G 3 0) x1) = 0 then (0, upd G 3 0) else (if (sm_isSector (upd G 3 0) x2) = 0 then (0, upd G 3 0) else (if (B (((32 * x1) + x2).toNatClampNeg)) = 0 then (0, upd G 3 0) else (1, upd G 3 0)))
theorem mx_are {G : Nat → Int32} {B : Nat → Int32} {n : Nat} {x1 x2 : Int32} (h : hg_n G n) (c : ¬ (sm_are G B x1 x2).1 = 0) : vp_in x1 32 ∧ vp_in x2 32 := by
  unfold sm_are at c
  by_cases h1 : sm_isSector (upd G 3 0) x1 = 0
  · simp [h1] at c
  · by_cases h2 : sm_isSector (upd G 3 0) x2 = 0
    · simp [h2] at c
    · exact ⟨mx_in (hg_up (by decide) h) h1, mx_in (hg_up (by decide) h) h2⟩
set_option maxHeartbeats 4000000 in
set_option maxRecDepth 100000 in
theorem c_M_are {x1 : Int32} {x2 : Int32} (hG : hg_n G n) : MI l D (t0 :: md_tys cm) yX3_are wsX3_are { frames := 1, cells := 0, slots := 0, locals := 21 } [.ref o, .int x1, .int x2] (md_W o am cm G S B) ((sm_are G B x1 x2).1) (md_W o am cm (sm_are G B x1 x2).2 S B) := by
  refine MI.start (cc := cX3_are) (maxL := 3) (by decide) rfl (Nat.le_of_ble_eq_true rfl) (fun p e s m args below meth c A ls C T hl => ?_)
  have hx := C.1.1
  have hb := C.1.2.1
  have hml := C.1.2.2.1
  have hown : s.vm.findClass RX3 = some m.cls := C.1.2.2.2.1
  have hts := C.1.2.2.2.2
  have hK := C.2.2.2.1
  have hinM : ∀ w ∈ wsX30, w ∈ wsX3_are := fun w h => List.mem_cons_of_mem _ (inX3 w h)
  have hn32 := hG.1
  have hl : lv_has ls 3 [(0, .ref o), (1, .int x1), (2, .int x2)] := hl
  refine lv_aload_n hx hb dX3_are_0 rfl (lv_at hl 0 rfl) ?_
  refine lv_iconst (v := 0) hx hb dX3_are_1 (by decide) ?_
  refine va_put (D := D) (ci := 2) (v := .int 0) (ty := .int) (C := RX3) (T := TX3) (N := 19) hx hb hts hinM tyX3 tyX3_ok nmX3 hown hK T.1 T.2.1 T.2.2 0 rfl rfl 0 (by decide) (hts _ (List.mem_cons_of_mem _ k3_f54)) (fun _ h9 => h9) rfl (by decide +kernel) rfl rfl (Nat.le_of_ble_eq_true rfl) dX3_are_2 (fun H locs hP hD hS => ?_)
  have T := md_setG (k := 3) (v := 0) (kk := 0) rfl ⟨hP, hD, hS⟩
  refine lv_aload_n hx hb dX3_are_5 rfl (lv_at hl 0 rfl) ?_
  refine lv_iload_n hx hb dX3_are_6 rfl (lv_at hl 1 rfl) ?_
  refine hw_Vi (As := [.int x1]) (rest := []) C T (c_M_isSector) (cwV 1 hts (x3_in k3_m63 k3_i_isSector k3_s_isSector k3_ini k3_c_isSector) rfl rfl rfl (by decide +kernel) ⟨Nat.le_of_ble_eq_true rfl, Nat.le_of_ble_eq_true rfl⟩) md_isO md_ad rfl hl.1 rfl (Nat.le_of_ble_eq_true rfl) dX3_are_7 ⟨Nat.zero_le _, Nat.zero_le _⟩ (fun H locs T => ?_)
  refine lv_if_eq (tgt := 59) hx hb dX3_are_10 (by decide) (fun c_10 => ?_) (fun c_10 => ?_)
  · skip
    refine lv_iconst (v := 0) hx hb dX3_are_59 (by decide) ?_
    have e9 : sm_are G B x1 x2 = (0, upd G 3 0) := by unfold sm_are; simp only [if_pos c_10]
    exact hw_iret C T (by decide) (by rw [e9]) (by rw [e9]) dX3_are_60
  · skip
    refine lv_aload_n hx hb dX3_are_13 rfl (lv_at hl 0 rfl) ?_
    refine lv_iload_n hx hb dX3_are_14 rfl (lv_at hl 2 rfl) ?_
    refine hw_Vi (As := [.int x2]) (rest := []) C T (c_M_isSector) (cwV 1 hts (x3_in k3_m63 k3_i_isSector k3_s_isSector k3_ini k3_c_isSector) rfl rfl rfl (by decide +kernel) ⟨Nat.le_of_ble_eq_true rfl, Nat.le_of_ble_eq_true rfl⟩) md_isO md_ad rfl hl.1 rfl (Nat.le_of_ble_eq_true rfl) dX3_are_15 ⟨Nat.zero_le _, Nat.zero_le _⟩ (fun H locs T => ?_)
    refine lv_if_eq (tgt := 59) hx hb dX3_are_18 (by decide) (fun c_18 => ?_) (fun c_18 => ?_)
    · skip
      refine lv_iconst (v := 0) hx hb dX3_are_59 (by decide) ?_
      have e9 : sm_are G B x1 x2 = (0, upd G 3 0) := by unfold sm_are; simp only [if_neg c_10, if_pos c_18]
      exact hw_iret C T (by decide) (by rw [e9]) (by rw [e9]) dX3_are_60
    · skip
      refine lv_aload_n hx hb dX3_are_21 rfl (lv_at hl 0 rfl) ?_
      refine va_get (D := D) (ci := 2) (v := .ref (am 5)) (C := RX3) (T := TX3) (N := 19) hx hb hts hinM hown hK T.1 0 rfl rfl 7 (by decide) (hts _ (List.mem_cons_of_mem _ k3_f25)) (fun _ h9 => h9) rfl dX3_are_22 ?_
      refine lv_aload_n hx hb dX3_are_25 rfl (lv_at hl 0 rfl) ?_
      refine lv_iload_n hx hb dX3_are_26 rfl (lv_at hl 1 rfl) ?_
      refine hw_Vi (As := [.int x1]) (rest := [.ref (am 5)]) C T (c_M_isSector) (cwV 1 hts (x3_in k3_m63 k3_i_isSector k3_s_isSector k3_ini k3_c_isSector) rfl rfl rfl (by decide +kernel) ⟨Nat.le_of_ble_eq_true rfl, Nat.le_of_ble_eq_true rfl⟩) md_isO md_ad rfl hl.1 rfl (Nat.le_of_ble_eq_true rfl) dX3_are_27 ⟨Nat.zero_le _, Nat.zero_le _⟩ (fun H locs T => ?_)
      refine lv_if_eq (tgt := 50) hx hb dX3_are_30 (by decide) (fun c_30 => absurd c_30 c_10) (fun _ => ?_)
      refine lv_aload_n hx hb dX3_are_33 rfl (lv_at hl 0 rfl) ?_
      refine lv_iload_n hx hb dX3_are_34 rfl (lv_at hl 2 rfl) ?_
      refine hw_Vi (As := [.int x2]) (rest := [.ref (am 5)]) C T (c_M_isSector) (cwV 1 hts (x3_in k3_m63 k3_i_isSector k3_s_isSector k3_ini k3_c_isSector) rfl rfl rfl (by decide +kernel) ⟨Nat.le_of_ble_eq_true rfl, Nat.le_of_ble_eq_true rfl⟩) md_isO md_ad rfl hl.1 rfl (Nat.le_of_ble_eq_true rfl) dX3_are_35 ⟨Nat.zero_le _, Nat.zero_le _⟩ (fun H locs T => ?_)
      refine lv_if_eq (tgt := 50) hx hb dX3_are_38 (by decide) (fun c_38 => absurd c_38 c_18) (fun _ => ?_)
      refine lv_bipush (v := 32) hx hb dX3_are_41 (by decide) ?_
      refine lv_iload_n hx hb dX3_are_43 rfl (lv_at hl 1 rfl) ?_
      refine lv_imul hx hb dX3_are_44 ?_
      refine lv_iload_n hx hb dX3_are_45 rfl (lv_at hl 2 rfl) ?_
      refine lv_iadd hx hb dX3_are_46 ?_
      refine lv_goto (tgt := 51) hx hb dX3_are_47 (by decide) ?_
      have h_51 : vp_in ((32 * x1) + x2) 1024 := (by first | exact mb_in (mx_in (hg_up (by decide) hG) c_10) (mx_in (hg_up (by decide) hG) c_18) | (unfold vp_in; decide))
      refine va_zald hx hb hK T.1 6 6 rfl rfl h_51 dX3_are_51 ?_
      refine W.eq (g2 := F0 m 52 ls [.int (B (((32 * x1) + x2).toNatClampNeg))]) rfl ?_
      refine lv_if_eq (tgt := 59) hx hb dX3_are_52 (by decide) (fun c_52 => ?_) (fun c_52 => ?_)
      · skip
        refine lv_iconst (v := 0) hx hb dX3_are_59 (by decide) ?_
        have e9 : sm_are G B x1 x2 = (0, upd G 3 0) := by unfold sm_are; simp only [if_neg c_10, if_neg c_18, if_pos c_52]
        exact hw_iret C T (by decide) (by rw [e9]) (by rw [e9]) dX3_are_60
      · skip
        refine lv_iconst (v := 1) hx hb dX3_are_55 (by decide) ?_
        refine lv_goto (tgt := 60) hx hb dX3_are_56 (by decide) ?_
        have e9 : sm_are G B x1 x2 = (1, upd G 3 0) := by unfold sm_are; simp only [if_neg c_10, if_neg c_18, if_neg c_52]
        exact hw_iret C T (by decide) (by rw [e9]) (by rw [e9]) dX3_are_60
/-- opn, its picture -/
def sm_open (G : Nat → Int32) (S : Nat → Nat → Int32) (B : Nat → Int32) (x1 : Int32) (x2 : Int32) : Int32 × (Nat → Int32) := if ((sm_are G B x1 x2).1) = 0 then (0, (sm_are G B x1 x2).2) else (if (S x2.toNatClampNeg 7) ≤ (S x1.toNatClampNeg 7) then (if (S x1.toNatClampNeg 6) ≤ (S x2.toNatClampNeg 6) then (if 24 < ((S x2.toNatClampNeg 6) - (S x1.toNatClampNeg 6)) then (0, (sm_are G B x1 x2).2) else (if ((S x2.toNatClampNeg 7) - (S x2.toNatClampNeg 6)) < 56 then (0, (sm_are G B x1 x2).2) else (1, (sm_are G B x1 x2).2))) else (if 24 < ((S x2.toNatClampNeg 6) - (S x1.toNatClampNeg 6)) then (0, (sm_are G B x1 x2).2) else (if ((S x2.toNatClampNeg 7) - (S x1.toNatClampNeg 6)) < 56 then (0, (sm_are G B x1 x2).2) else (1, (sm_are G B x1 x2).2)))) else (if (S x1.toNatClampNeg 6) ≤ (S x2.toNatClampNeg 6) then (if 24 < ((S x2.toNatClampNeg 6) - (S x1.toNatClampNeg 6)) then (0, (sm_are G B x1 x2).2) else (if ((S x1.toNatClampNeg 7) - (S x2.toNatClampNeg 6)) < 56 then (0, (sm_are G B x1 x2).2) else (1, (sm_are G B x1 x2).2))) else (if 24 < ((S x2.toNatClampNeg 6) - (S x1.toNatClampNeg 6)) then (0, (sm_are G B x1 x2).2) else (if ((S x1.toNatClampNeg 7) - (S x1.toNatClampNeg 6)) < 56 then (0, (sm_are G B x1 x2).2) else (1, (sm_are G B x1 x2).2)))))
set_option maxHeartbeats 4000000 in
set_option maxRecDepth 100000 in
theorem c_M_open {x1 : Int32} {x2 : Int32} (hG : hg_n G n) : MI l D (t0 :: md_tys cm) yX3_open wsX3_open { frames := 2, cells := 0, slots := 0, locals := 43 } [.ref o, .int x1, .int x2] (md_W o am cm G S B) ((sm_open G S B x1 x2).1) (md_W o am cm (sm_open G S B x1 x2).2 S B) := by
  refine MI.start (cc := cX3_open) (maxL := 5) (by decide) rfl (Nat.le_of_ble_eq_true rfl) (fun p e s m args below meth c A ls C T hl => ?_)
  have hx := C.1.1
  have hb := C.1.2.1
  have hml := C.1.2.2.1
  have hown : s.vm.findClass RX3 = some m.cls := C.1.2.2.2.1
  have hts := C.1.2.2.2.2
  have hK := C.2.2.2.1
  have hinM : ∀ w ∈ wsX30, w ∈ wsX3_open := fun w h => List.mem_cons_of_mem _ (inX3 w h)
  have hn32 := hG.1
  have hl : lv_has ls 5 [(0, .ref o), (1, .int x1), (2, .int x2)] := hl
  refine lv_aload_n hx hb dX3_open_0 rfl (lv_at hl 0 rfl) ?_
  refine lv_iload_n hx hb dX3_open_1 rfl (lv_at hl 1 rfl) ?_
  refine lv_iload_n hx hb dX3_open_2 rfl (lv_at hl 2 rfl) ?_
  refine hw_Vi (As := [.int x1, .int x2]) (rest := []) C T (c_M_are hG) (cwV 2 hts (x3_in k3_m116 k3_i_are k3_s_are k3_ini k3_c_are) rfl rfl rfl (by decide +kernel) ⟨Nat.le_of_ble_eq_true rfl, Nat.le_of_ble_eq_true rfl⟩) md_isO md_ad rfl hl.1 rfl (Nat.le_of_ble_eq_true rfl) dX3_open_3 ⟨Nat.zero_le _, Nat.zero_le _⟩ (fun H locs T => ?_)
  refine lv_if_ne (tgt := 11) hx hb dX3_open_6 (by decide) (fun c_6 => ?_) (fun c_6 => ?_)
  · skip
    refine lv_aload_n hx hb dX3_open_11 rfl (lv_at hl 0 rfl) ?_
    refine va_get (D := D) (ci := 2) (v := .ref (am 7)) (C := RX3) (T := TX3) (N := 19) hx hb hts hinM hown hK T.1 0 rfl rfl 10 (by decide) (hts _ (List.mem_cons_of_mem _ k3_f32)) (fun _ h9 => h9) rfl dX3_open_12 ?_
    refine lv_iload_n hx hb dX3_open_15 rfl (lv_at hl 1 rfl) ?_
    have h_16 : vp_in x1 32 := (mx_are hG c_6).1
    refine va_iald hx hb hK T.1 8 8 rfl rfl h_16 dX3_open_16 ?_
    refine W.eq (g2 := F0 m 17 ls [.int (S x1.toNatClampNeg 7)]) rfl ?_
    refine lv_aload_n hx hb dX3_open_17 rfl (lv_at hl 0 rfl) ?_
    refine va_get (D := D) (ci := 2) (v := .ref (am 7)) (C := RX3) (T := TX3) (N := 19) hx hb hts hinM hown hK T.1 0 rfl rfl 10 (by decide) (hts _ (List.mem_cons_of_mem _ k3_f32)) (fun _ h9 => h9) rfl dX3_open_18 ?_
    refine lv_iload_n hx hb dX3_open_21 rfl (lv_at hl 2 rfl) ?_
    have h_22 : vp_in x2 32 := (mx_are hG c_6).2
    refine va_iald hx hb hK T.1 8 8 rfl rfl h_22 dX3_open_22 ?_
    refine W.eq (g2 := F0 m 23 ls [.int (S x2.toNatClampNeg 7), .int (S x1.toNatClampNeg 7)]) rfl ?_
    refine lv_icmp_ge (tgt := 35) hx hb dX3_open_23 (by decide) (fun c_23 => ?_) (fun c_23 => ?_)
    · skip
      refine lv_aload_n hx hb dX3_open_35 rfl (lv_at hl 0 rfl) ?_
      refine va_get (D := D) (ci := 2) (v := .ref (am 7)) (C := RX3) (T := TX3) (N := 19) hx hb hts hinM hown hK T.1 0 rfl rfl 10 (by decide) (hts _ (List.mem_cons_of_mem _ k3_f32)) (fun _ h9 => h9) rfl dX3_open_36 ?_
      refine lv_iload_n hx hb dX3_open_39 rfl (lv_at hl 2 rfl) ?_
      have h_40 : vp_in x2 32 := (mx_are hG c_6).2
      refine va_iald hx hb hK T.1 8 8 rfl rfl h_40 dX3_open_40 ?_
      refine W.eq (g2 := F0 m 41 ls [.int (S x2.toNatClampNeg 7)]) rfl ?_
      refine lv_istore_n (lv' := [(3, .int (S x2.toNatClampNeg 7)), (0, .ref o), (1, .int x1), (2, .int x2)]) hx hb dX3_open_41 rfl hl (by decide) rfl (fun ls hl => ?_)
      refine lv_aload_n hx hb dX3_open_42 rfl (lv_at hl 1 rfl) ?_
      refine va_get (D := D) (ci := 2) (v := .ref (am 6)) (C := RX3) (T := TX3) (N := 19) hx hb hts hinM hown hK T.1 0 rfl rfl 9 (by decide) (hts _ (List.mem_cons_of_mem _ k3_f29)) (fun _ h9 => h9) rfl dX3_open_43 ?_
      refine lv_iload_n hx hb dX3_open_46 rfl (lv_at hl 2 rfl) ?_
      have h_47 : vp_in x1 32 := (mx_are hG c_6).1
      refine va_iald hx hb hK T.1 7 7 rfl rfl h_47 dX3_open_47 ?_
      refine W.eq (g2 := F0 m 48 ls [.int (S x1.toNatClampNeg 6)]) rfl ?_
      refine lv_aload_n hx hb dX3_open_48 rfl (lv_at hl 1 rfl) ?_
      refine va_get (D := D) (ci := 2) (v := .ref (am 6)) (C := RX3) (T := TX3) (N := 19) hx hb hts hinM hown hK T.1 0 rfl rfl 9 (by decide) (hts _ (List.mem_cons_of_mem _ k3_f29)) (fun _ h9 => h9) rfl dX3_open_49 ?_
      refine lv_iload_n hx hb dX3_open_52 rfl (lv_at hl 3 rfl) ?_
      have h_53 : vp_in x2 32 := (mx_are hG c_6).2
      refine va_iald hx hb hK T.1 7 7 rfl rfl h_53 dX3_open_53 ?_
      refine W.eq (g2 := F0 m 54 ls [.int (S x2.toNatClampNeg 6), .int (S x1.toNatClampNeg 6)]) rfl ?_
      refine lv_icmp_le (tgt := 66) hx hb dX3_open_54 (by decide) (fun c_54 => ?_) (fun c_54 => ?_)
      · skip
        refine lv_aload_n hx hb dX3_open_66 rfl (lv_at hl 1 rfl) ?_
        refine va_get (D := D) (ci := 2) (v := .ref (am 6)) (C := RX3) (T := TX3) (N := 19) hx hb hts hinM hown hK T.1 0 rfl rfl 9 (by decide) (hts _ (List.mem_cons_of_mem _ k3_f29)) (fun _ h9 => h9) rfl dX3_open_67 ?_
        refine lv_iload_n hx hb dX3_open_70 rfl (lv_at hl 3 rfl) ?_
        have h_71 : vp_in x2 32 := (mx_are hG c_6).2
        refine va_iald hx hb hK T.1 7 7 rfl rfl h_71 dX3_open_71 ?_
        refine W.eq (g2 := F0 m 72 ls [.int (S x2.toNatClampNeg 6)]) rfl ?_
        refine lv_istore (lv' := [(4, .int (S x2.toNatClampNeg 6)), (3, .int (S x2.toNatClampNeg 7)), (0, .ref o), (1, .int x1), (2, .int x2)]) hx hb dX3_open_72 hl (by decide) rfl (fun ls hl => ?_)
        refine lv_aload_n hx hb dX3_open_74 rfl (lv_at hl 2 rfl) ?_
        refine va_get (D := D) (ci := 2) (v := .ref (am 6)) (C := RX3) (T := TX3) (N := 19) hx hb hts hinM hown hK T.1 0 rfl rfl 9 (by decide) (hts _ (List.mem_cons_of_mem _ k3_f29)) (fun _ h9 => h9) rfl dX3_open_75 ?_
        refine lv_iload_n hx hb dX3_open_78 rfl (lv_at hl 4 rfl) ?_
        have h_79 : vp_in x2 32 := (mx_are hG c_6).2
        refine va_iald hx hb hK T.1 7 7 rfl rfl h_79 dX3_open_79 ?_
        refine W.eq (g2 := F0 m 80 ls [.int (S x2.toNatClampNeg 6)]) rfl ?_
        refine lv_aload_n hx hb dX3_open_80 rfl (lv_at hl 2 rfl) ?_
        refine va_get (D := D) (ci := 2) (v := .ref (am 6)) (C := RX3) (T := TX3) (N := 19) hx hb hts hinM hown hK T.1 0 rfl rfl 9 (by decide) (hts _ (List.mem_cons_of_mem _ k3_f29)) (fun _ h9 => h9) rfl dX3_open_81 ?_
        refine lv_iload_n hx hb dX3_open_84 rfl (lv_at hl 3 rfl) ?_
        have h_85 : vp_in x1 32 := (mx_are hG c_6).1
        refine va_iald hx hb hK T.1 7 7 rfl rfl h_85 dX3_open_85 ?_
        refine W.eq (g2 := F0 m 86 ls [.int (S x1.toNatClampNeg 6), .int (S x2.toNatClampNeg 6)]) rfl ?_
        refine lv_isub hx hb dX3_open_86 ?_
        refine lv_bipush (v := 24) hx hb dX3_open_87 (by decide) ?_
        refine lv_icmp_gt (tgt := 105) hx hb dX3_open_89 (by decide) (fun c_89 => ?_) (fun c_89 => ?_)
        · skip
          refine lv_iconst (v := 0) hx hb dX3_open_105 (by decide) ?_
          have e9 : sm_open G S B x1 x2 = (0, (sm_are G B x1 x2).2) := by unfold sm_open; simp only [if_neg c_6, if_pos c_23, if_pos c_54, if_pos c_89]
          exact hw_iret C T (by decide) (by rw [e9]) (by rw [e9]) dX3_open_106
        · skip
          refine lv_iload_n hx hb dX3_open_92 rfl (lv_at hl 1 rfl) ?_
          refine lv_iload hx hb dX3_open_93 (lv_at hl 0 rfl) ?_
          refine lv_isub hx hb dX3_open_95 ?_
          refine lv_bipush (v := 56) hx hb dX3_open_96 (by decide) ?_
          refine lv_icmp_lt (tgt := 105) hx hb dX3_open_98 (by decide) (fun c_98 => ?_) (fun c_98 => ?_)
          · skip
            refine lv_iconst (v := 0) hx hb dX3_open_105 (by decide) ?_
            have e9 : sm_open G S B x1 x2 = (0, (sm_are G B x1 x2).2) := by unfold sm_open; simp only [if_neg c_6, if_pos c_23, if_pos c_54, if_neg c_89, if_pos c_98]
            exact hw_iret C T (by decide) (by rw [e9]) (by rw [e9]) dX3_open_106
          · skip
            refine lv_iconst (v := 1) hx hb dX3_open_101 (by decide) ?_
            refine lv_goto (tgt := 106) hx hb dX3_open_102 (by decide) ?_
            have e9 : sm_open G S B x1 x2 = (1, (sm_are G B x1 x2).2) := by unfold sm_open; simp only [if_neg c_6, if_pos c_23, if_pos c_54, if_neg c_89, if_neg c_98]
            exact hw_iret C T (by decide) (by rw [e9]) (by rw [e9]) dX3_open_106
      · skip
        refine lv_aload_n hx hb dX3_open_57 rfl (lv_at hl 1 rfl) ?_
        refine va_get (D := D) (ci := 2) (v := .ref (am 6)) (C := RX3) (T := TX3) (N := 19) hx hb hts hinM hown hK T.1 0 rfl rfl 9 (by decide) (hts _ (List.mem_cons_of_mem _ k3_f29)) (fun _ h9 => h9) rfl dX3_open_58 ?_
        refine lv_iload_n hx hb dX3_open_61 rfl (lv_at hl 2 rfl) ?_
        have h_62 : vp_in x1 32 := (mx_are hG c_6).1
        refine va_iald hx hb hK T.1 7 7 rfl rfl h_62 dX3_open_62 ?_
        refine W.eq (g2 := F0 m 63 ls [.int (S x1.toNatClampNeg 6)]) rfl ?_
        refine lv_goto (tgt := 72) hx hb dX3_open_63 (by decide) ?_
        refine lv_istore (lv' := [(4, .int (S x1.toNatClampNeg 6)), (3, .int (S x2.toNatClampNeg 7)), (0, .ref o), (1, .int x1), (2, .int x2)]) hx hb dX3_open_72 hl (by decide) rfl (fun ls hl => ?_)
        refine lv_aload_n hx hb dX3_open_74 rfl (lv_at hl 2 rfl) ?_
        refine va_get (D := D) (ci := 2) (v := .ref (am 6)) (C := RX3) (T := TX3) (N := 19) hx hb hts hinM hown hK T.1 0 rfl rfl 9 (by decide) (hts _ (List.mem_cons_of_mem _ k3_f29)) (fun _ h9 => h9) rfl dX3_open_75 ?_
        refine lv_iload_n hx hb dX3_open_78 rfl (lv_at hl 4 rfl) ?_
        have h_79 : vp_in x2 32 := (mx_are hG c_6).2
        refine va_iald hx hb hK T.1 7 7 rfl rfl h_79 dX3_open_79 ?_
        refine W.eq (g2 := F0 m 80 ls [.int (S x2.toNatClampNeg 6)]) rfl ?_
        refine lv_aload_n hx hb dX3_open_80 rfl (lv_at hl 2 rfl) ?_
        refine va_get (D := D) (ci := 2) (v := .ref (am 6)) (C := RX3) (T := TX3) (N := 19) hx hb hts hinM hown hK T.1 0 rfl rfl 9 (by decide) (hts _ (List.mem_cons_of_mem _ k3_f29)) (fun _ h9 => h9) rfl dX3_open_81 ?_
        refine lv_iload_n hx hb dX3_open_84 rfl (lv_at hl 3 rfl) ?_
        have h_85 : vp_in x1 32 := (mx_are hG c_6).1
        refine va_iald hx hb hK T.1 7 7 rfl rfl h_85 dX3_open_85 ?_
        refine W.eq (g2 := F0 m 86 ls [.int (S x1.toNatClampNeg 6), .int (S x2.toNatClampNeg 6)]) rfl ?_
        refine lv_isub hx hb dX3_open_86 ?_
        refine lv_bipush (v := 24) hx hb dX3_open_87 (by decide) ?_
        refine lv_icmp_gt (tgt := 105) hx hb dX3_open_89 (by decide) (fun c_89 => ?_) (fun c_89 => ?_)
        · skip
          refine lv_iconst (v := 0) hx hb dX3_open_105 (by decide) ?_
          have e9 : sm_open G S B x1 x2 = (0, (sm_are G B x1 x2).2) := by unfold sm_open; simp only [if_neg c_6, if_pos c_23, if_neg c_54, if_pos c_89]
          exact hw_iret C T (by decide) (by rw [e9]) (by rw [e9]) dX3_open_106
        · skip
          refine lv_iload_n hx hb dX3_open_92 rfl (lv_at hl 1 rfl) ?_
          refine lv_iload hx hb dX3_open_93 (lv_at hl 0 rfl) ?_
          refine lv_isub hx hb dX3_open_95 ?_
          refine lv_bipush (v := 56) hx hb dX3_open_96 (by decide) ?_
          refine lv_icmp_lt (tgt := 105) hx hb dX3_open_98 (by decide) (fun c_98 => ?_) (fun c_98 => ?_)
          · skip
            refine lv_iconst (v := 0) hx hb dX3_open_105 (by decide) ?_
            have e9 : sm_open G S B x1 x2 = (0, (sm_are G B x1 x2).2) := by unfold sm_open; simp only [if_neg c_6, if_pos c_23, if_neg c_54, if_neg c_89, if_pos c_98]
            exact hw_iret C T (by decide) (by rw [e9]) (by rw [e9]) dX3_open_106
          · skip
            refine lv_iconst (v := 1) hx hb dX3_open_101 (by decide) ?_
            refine lv_goto (tgt := 106) hx hb dX3_open_102 (by decide) ?_
            have e9 : sm_open G S B x1 x2 = (1, (sm_are G B x1 x2).2) := by unfold sm_open; simp only [if_neg c_6, if_pos c_23, if_neg c_54, if_neg c_89, if_neg c_98]
            exact hw_iret C T (by decide) (by rw [e9]) (by rw [e9]) dX3_open_106
    · skip
      refine lv_aload_n hx hb dX3_open_26 rfl (lv_at hl 0 rfl) ?_
      refine va_get (D := D) (ci := 2) (v := .ref (am 7)) (C := RX3) (T := TX3) (N := 19) hx hb hts hinM hown hK T.1 0 rfl rfl 10 (by decide) (hts _ (List.mem_cons_of_mem _ k3_f32)) (fun _ h9 => h9) rfl dX3_open_27 ?_
      refine lv_iload_n hx hb dX3_open_30 rfl (lv_at hl 1 rfl) ?_
      have h_31 : vp_in x1 32 := (mx_are hG c_6).1
      refine va_iald hx hb hK T.1 8 8 rfl rfl h_31 dX3_open_31 ?_
      refine W.eq (g2 := F0 m 32 ls [.int (S x1.toNatClampNeg 7)]) rfl ?_
      refine lv_goto (tgt := 41) hx hb dX3_open_32 (by decide) ?_
      refine lv_istore_n (lv' := [(3, .int (S x1.toNatClampNeg 7)), (0, .ref o), (1, .int x1), (2, .int x2)]) hx hb dX3_open_41 rfl hl (by decide) rfl (fun ls hl => ?_)
      refine lv_aload_n hx hb dX3_open_42 rfl (lv_at hl 1 rfl) ?_
      refine va_get (D := D) (ci := 2) (v := .ref (am 6)) (C := RX3) (T := TX3) (N := 19) hx hb hts hinM hown hK T.1 0 rfl rfl 9 (by decide) (hts _ (List.mem_cons_of_mem _ k3_f29)) (fun _ h9 => h9) rfl dX3_open_43 ?_
      refine lv_iload_n hx hb dX3_open_46 rfl (lv_at hl 2 rfl) ?_
      have h_47 : vp_in x1 32 := (mx_are hG c_6).1
      refine va_iald hx hb hK T.1 7 7 rfl rfl h_47 dX3_open_47 ?_
      refine W.eq (g2 := F0 m 48 ls [.int (S x1.toNatClampNeg 6)]) rfl ?_
      refine lv_aload_n hx hb dX3_open_48 rfl (lv_at hl 1 rfl) ?_
      refine va_get (D := D) (ci := 2) (v := .ref (am 6)) (C := RX3) (T := TX3) (N := 19) hx hb hts hinM hown hK T.1 0 rfl rfl 9 (by decide) (hts _ (List.mem_cons_of_mem _ k3_f29)) (fun _ h9 => h9) rfl dX3_open_49 ?_
      refine lv_iload_n hx hb dX3_open_52 rfl (lv_at hl 3 rfl) ?_
      have h_53 : vp_in x2 32 := (mx_are hG c_6).2
      refine va_iald hx hb hK T.1 7 7 rfl rfl h_53 dX3_open_53 ?_
      refine W.eq (g2 := F0 m 54 ls [.int (S x2.toNatClampNeg 6), .int (S x1.toNatClampNeg 6)]) rfl ?_
      refine lv_icmp_le (tgt := 66) hx hb dX3_open_54 (by decide) (fun c_54 => ?_) (fun c_54 => ?_)
      · skip
        refine lv_aload_n hx hb dX3_open_66 rfl (lv_at hl 1 rfl) ?_
        refine va_get (D := D) (ci := 2) (v := .ref (am 6)) (C := RX3) (T := TX3) (N := 19) hx hb hts hinM hown hK T.1 0 rfl rfl 9 (by decide) (hts _ (List.mem_cons_of_mem _ k3_f29)) (fun _ h9 => h9) rfl dX3_open_67 ?_
        refine lv_iload_n hx hb dX3_open_70 rfl (lv_at hl 3 rfl) ?_
        have h_71 : vp_in x2 32 := (mx_are hG c_6).2
        refine va_iald hx hb hK T.1 7 7 rfl rfl h_71 dX3_open_71 ?_
        refine W.eq (g2 := F0 m 72 ls [.int (S x2.toNatClampNeg 6)]) rfl ?_
        refine lv_istore (lv' := [(4, .int (S x2.toNatClampNeg 6)), (3, .int (S x1.toNatClampNeg 7)), (0, .ref o), (1, .int x1), (2, .int x2)]) hx hb dX3_open_72 hl (by decide) rfl (fun ls hl => ?_)
        refine lv_aload_n hx hb dX3_open_74 rfl (lv_at hl 2 rfl) ?_
        refine va_get (D := D) (ci := 2) (v := .ref (am 6)) (C := RX3) (T := TX3) (N := 19) hx hb hts hinM hown hK T.1 0 rfl rfl 9 (by decide) (hts _ (List.mem_cons_of_mem _ k3_f29)) (fun _ h9 => h9) rfl dX3_open_75 ?_
        refine lv_iload_n hx hb dX3_open_78 rfl (lv_at hl 4 rfl) ?_
        have h_79 : vp_in x2 32 := (mx_are hG c_6).2
        refine va_iald hx hb hK T.1 7 7 rfl rfl h_79 dX3_open_79 ?_
        refine W.eq (g2 := F0 m 80 ls [.int (S x2.toNatClampNeg 6)]) rfl ?_
        refine lv_aload_n hx hb dX3_open_80 rfl (lv_at hl 2 rfl) ?_
        refine va_get (D := D) (ci := 2) (v := .ref (am 6)) (C := RX3) (T := TX3) (N := 19) hx hb hts hinM hown hK T.1 0 rfl rfl 9 (by decide) (hts _ (List.mem_cons_of_mem _ k3_f29)) (fun _ h9 => h9) rfl dX3_open_81 ?_
        refine lv_iload_n hx hb dX3_open_84 rfl (lv_at hl 3 rfl) ?_
        have h_85 : vp_in x1 32 := (mx_are hG c_6).1
        refine va_iald hx hb hK T.1 7 7 rfl rfl h_85 dX3_open_85 ?_
        refine W.eq (g2 := F0 m 86 ls [.int (S x1.toNatClampNeg 6), .int (S x2.toNatClampNeg 6)]) rfl ?_
        refine lv_isub hx hb dX3_open_86 ?_
        refine lv_bipush (v := 24) hx hb dX3_open_87 (by decide) ?_
        refine lv_icmp_gt (tgt := 105) hx hb dX3_open_89 (by decide) (fun c_89 => ?_) (fun c_89 => ?_)
        · skip
          refine lv_iconst (v := 0) hx hb dX3_open_105 (by decide) ?_
          have e9 : sm_open G S B x1 x2 = (0, (sm_are G B x1 x2).2) := by unfold sm_open; simp only [if_neg c_6, if_neg c_23, if_pos c_54, if_pos c_89]
          exact hw_iret C T (by decide) (by rw [e9]) (by rw [e9]) dX3_open_106
        · skip
          refine lv_iload_n hx hb dX3_open_92 rfl (lv_at hl 1 rfl) ?_
          refine lv_iload hx hb dX3_open_93 (lv_at hl 0 rfl) ?_
          refine lv_isub hx hb dX3_open_95 ?_
          refine lv_bipush (v := 56) hx hb dX3_open_96 (by decide) ?_
          refine lv_icmp_lt (tgt := 105) hx hb dX3_open_98 (by decide) (fun c_98 => ?_) (fun c_98 => ?_)
          · skip
            refine lv_iconst (v := 0) hx hb dX3_open_105 (by decide) ?_
            have e9 : sm_open G S B x1 x2 = (0, (sm_are G B x1 x2).2) := by unfold sm_open; simp only [if_neg c_6, if_neg c_23, if_pos c_54, if_neg c_89, if_pos c_98]
            exact hw_iret C T (by decide) (by rw [e9]) (by rw [e9]) dX3_open_106
          · skip
            refine lv_iconst (v := 1) hx hb dX3_open_101 (by decide) ?_
            refine lv_goto (tgt := 106) hx hb dX3_open_102 (by decide) ?_
            have e9 : sm_open G S B x1 x2 = (1, (sm_are G B x1 x2).2) := by unfold sm_open; simp only [if_neg c_6, if_neg c_23, if_pos c_54, if_neg c_89, if_neg c_98]
            exact hw_iret C T (by decide) (by rw [e9]) (by rw [e9]) dX3_open_106
      · skip
        refine lv_aload_n hx hb dX3_open_57 rfl (lv_at hl 1 rfl) ?_
        refine va_get (D := D) (ci := 2) (v := .ref (am 6)) (C := RX3) (T := TX3) (N := 19) hx hb hts hinM hown hK T.1 0 rfl rfl 9 (by decide) (hts _ (List.mem_cons_of_mem _ k3_f29)) (fun _ h9 => h9) rfl dX3_open_58 ?_
        refine lv_iload_n hx hb dX3_open_61 rfl (lv_at hl 2 rfl) ?_
        have h_62 : vp_in x1 32 := (mx_are hG c_6).1
        refine va_iald hx hb hK T.1 7 7 rfl rfl h_62 dX3_open_62 ?_
        refine W.eq (g2 := F0 m 63 ls [.int (S x1.toNatClampNeg 6)]) rfl ?_
        refine lv_goto (tgt := 72) hx hb dX3_open_63 (by decide) ?_
        refine lv_istore (lv' := [(4, .int (S x1.toNatClampNeg 6)), (3, .int (S x1.toNatClampNeg 7)), (0, .ref o), (1, .int x1), (2, .int x2)]) hx hb dX3_open_72 hl (by decide) rfl (fun ls hl => ?_)
        refine lv_aload_n hx hb dX3_open_74 rfl (lv_at hl 2 rfl) ?_
        refine va_get (D := D) (ci := 2) (v := .ref (am 6)) (C := RX3) (T := TX3) (N := 19) hx hb hts hinM hown hK T.1 0 rfl rfl 9 (by decide) (hts _ (List.mem_cons_of_mem _ k3_f29)) (fun _ h9 => h9) rfl dX3_open_75 ?_
        refine lv_iload_n hx hb dX3_open_78 rfl (lv_at hl 4 rfl) ?_
        have h_79 : vp_in x2 32 := (mx_are hG c_6).2
        refine va_iald hx hb hK T.1 7 7 rfl rfl h_79 dX3_open_79 ?_
        refine W.eq (g2 := F0 m 80 ls [.int (S x2.toNatClampNeg 6)]) rfl ?_
        refine lv_aload_n hx hb dX3_open_80 rfl (lv_at hl 2 rfl) ?_
        refine va_get (D := D) (ci := 2) (v := .ref (am 6)) (C := RX3) (T := TX3) (N := 19) hx hb hts hinM hown hK T.1 0 rfl rfl 9 (by decide) (hts _ (List.mem_cons_of_mem _ k3_f29)) (fun _ h9 => h9) rfl dX3_open_81 ?_
        refine lv_iload_n hx hb dX3_open_84 rfl (lv_at hl 3 rfl) ?_
        have h_85 : vp_in x1 32 := (mx_are hG c_6).1
        refine va_iald hx hb hK T.1 7 7 rfl rfl h_85 dX3_open_85 ?_
        refine W.eq (g2 := F0 m 86 ls [.int (S x1.toNatClampNeg 6), .int (S x2.toNatClampNeg 6)]) rfl ?_
        refine lv_isub hx hb dX3_open_86 ?_
        refine lv_bipush (v := 24) hx hb dX3_open_87 (by decide) ?_
        refine lv_icmp_gt (tgt := 105) hx hb dX3_open_89 (by decide) (fun c_89 => ?_) (fun c_89 => ?_)
        · skip
          refine lv_iconst (v := 0) hx hb dX3_open_105 (by decide) ?_
          have e9 : sm_open G S B x1 x2 = (0, (sm_are G B x1 x2).2) := by unfold sm_open; simp only [if_neg c_6, if_neg c_23, if_neg c_54, if_pos c_89]
          exact hw_iret C T (by decide) (by rw [e9]) (by rw [e9]) dX3_open_106
        · skip
          refine lv_iload_n hx hb dX3_open_92 rfl (lv_at hl 1 rfl) ?_
          refine lv_iload hx hb dX3_open_93 (lv_at hl 0 rfl) ?_
          refine lv_isub hx hb dX3_open_95 ?_
          refine lv_bipush (v := 56) hx hb dX3_open_96 (by decide) ?_
          refine lv_icmp_lt (tgt := 105) hx hb dX3_open_98 (by decide) (fun c_98 => ?_) (fun c_98 => ?_)
          · skip
            refine lv_iconst (v := 0) hx hb dX3_open_105 (by decide) ?_
            have e9 : sm_open G S B x1 x2 = (0, (sm_are G B x1 x2).2) := by unfold sm_open; simp only [if_neg c_6, if_neg c_23, if_neg c_54, if_neg c_89, if_pos c_98]
            exact hw_iret C T (by decide) (by rw [e9]) (by rw [e9]) dX3_open_106
          · skip
            refine lv_iconst (v := 1) hx hb dX3_open_101 (by decide) ?_
            refine lv_goto (tgt := 106) hx hb dX3_open_102 (by decide) ?_
            have e9 : sm_open G S B x1 x2 = (1, (sm_are G B x1 x2).2) := by unfold sm_open; simp only [if_neg c_6, if_neg c_23, if_neg c_54, if_neg c_89, if_neg c_98]
            exact hw_iret C T (by decide) (by rw [e9]) (by rw [e9]) dX3_open_106
  · skip
    refine lv_iconst (v := 0) hx hb dX3_open_9 (by decide) ?_
    have e9 : sm_open G S B x1 x2 = (0, (sm_are G B x1 x2).2) := by unfold sm_open; simp only [if_pos c_6]
    exact hw_iret C T (by decide) (by rw [e9]) (by rw [e9]) dX3_open_10
/-- look, its picture -/
def sm_look (G : Nat → Int32) (S : Nat → Nat → Int32) (n : Nat) (x1 : Int32) : Int32 × (Nat → Int32) := if x1 = 0 then ((upd G 3 0) 0, upd G 3 0) else (if x1 = 1 then ((upd G 3 0) 1, upd G 3 0) else (if x1 = 2 then ((upd G 3 0) 2, upd G 3 0) else (if x1 = 3 then (sm_many S n, upd G 3 0) else (if x1 = 4 then ((upd G 3 0) 5, upd G 3 0) else (if x1 = 5 then ((upd G 3 0) 4, upd G 3 0) else ((-1), upd G 3 0))))))
set_option maxHeartbeats 4000000 in
set_option maxRecDepth 100000 in
theorem c_M_look {x1 : Int32} (hG : hg_n G n) : MI l D (t0 :: md_tys cm) yX3_look wsX3_look { frames := 1, cells := 0, slots := 0, locals := 22 } [.ref o, .int x1] (md_W o am cm G S B) ((sm_look G S n x1).1) (md_W o am cm (sm_look G S n x1).2 S B) := by
  refine MI.start (cc := cX3_look) (maxL := 2) (by decide) rfl (Nat.le_of_ble_eq_true rfl) (fun p e s m args below meth c A ls C T hl => ?_)
  have hx := C.1.1
  have hb := C.1.2.1
  have hml := C.1.2.2.1
  have hown : s.vm.findClass RX3 = some m.cls := C.1.2.2.2.1
  have hts := C.1.2.2.2.2
  have hK := C.2.2.2.1
  have hinM : ∀ w ∈ wsX30, w ∈ wsX3_look := fun w h => List.mem_cons_of_mem _ (inX3 w h)
  have hn32 := hG.1
  have hl : lv_has ls 2 [(0, .ref o), (1, .int x1)] := hl
  refine lv_aload_n hx hb dX3_look_0 rfl (lv_at hl 0 rfl) ?_
  refine lv_iconst (v := 0) hx hb dX3_look_1 (by decide) ?_
  refine va_put (D := D) (ci := 2) (v := .int 0) (ty := .int) (C := RX3) (T := TX3) (N := 19) hx hb hts hinM tyX3 tyX3_ok nmX3 hown hK T.1 T.2.1 T.2.2 0 rfl rfl 0 (by decide) (hts _ (List.mem_cons_of_mem _ k3_f54)) (fun _ h9 => h9) rfl (by decide +kernel) rfl rfl (Nat.le_of_ble_eq_true rfl) dX3_look_2 (fun H locs hP hD hS => ?_)
  have T := md_setG (k := 3) (v := 0) (kk := 0) rfl ⟨hP, hD, hS⟩
  refine lv_iload_n hx hb dX3_look_5 rfl (lv_at hl 1 rfl) ?_
  by_cases c_6_0 : x1 = 0
  · skip
    refine lv_tableIn (off := 38) (tgt := 44) hx hb dX3_look_6 (by rw [c_6_0]; decide) (by rw [c_6_0]; decide) (by rw [c_6_0]; decide +kernel) (by decide) ?_
    refine lv_aload_n hx hb dX3_look_44 rfl (lv_at hl 0 rfl) ?_
    refine va_get (D := D) (ci := 2) (v := .int ((upd G 3 0) 0)) (C := RX3) (T := TX3) (N := 19) hx hb hts hinM hown hK T.1 0 rfl rfl 1 (by decide) (hts _ (List.mem_cons_of_mem _ k3_f57)) (fun _ h9 => h9) rfl dX3_look_45 ?_
    have e9 : sm_look G S n x1 = ((upd G 3 0) 0, upd G 3 0) := by unfold sm_look; simp only [if_pos c_6_0]
    exact hw_iret C T rfl (by rw [e9]) (by rw [e9]) dX3_look_48
  · skip
    by_cases c_6_1 : x1 = 1
    · skip
      refine lv_tableIn (off := 43) (tgt := 49) hx hb dX3_look_6 (by rw [c_6_1]; decide) (by rw [c_6_1]; decide) (by rw [c_6_1]; decide +kernel) (by decide) ?_
      refine lv_aload_n hx hb dX3_look_49 rfl (lv_at hl 0 rfl) ?_
      refine va_get (D := D) (ci := 2) (v := .int ((upd G 3 0) 1)) (C := RX3) (T := TX3) (N := 19) hx hb hts hinM hown hK T.1 0 rfl rfl 8 (by decide) (hts _ (List.mem_cons_of_mem _ k3_f67)) (fun _ h9 => h9) rfl dX3_look_50 ?_
      have e9 : sm_look G S n x1 = ((upd G 3 0) 1, upd G 3 0) := by unfold sm_look; simp only [if_neg c_6_0, if_pos c_6_1]
      exact hw_iret C T rfl (by rw [e9]) (by rw [e9]) dX3_look_53
    · skip
      by_cases c_6_2 : x1 = 2
      · skip
        refine lv_tableIn (off := 48) (tgt := 54) hx hb dX3_look_6 (by rw [c_6_2]; decide) (by rw [c_6_2]; decide) (by rw [c_6_2]; decide +kernel) (by decide) ?_
        refine lv_aload_n hx hb dX3_look_54 rfl (lv_at hl 0 rfl) ?_
        refine va_get (D := D) (ci := 2) (v := .int ((upd G 3 0) 2)) (C := RX3) (T := TX3) (N := 19) hx hb hts hinM hown hK T.1 0 rfl rfl 16 (by decide) (hts _ (List.mem_cons_of_mem _ k3_f70)) (fun _ h9 => h9) rfl dX3_look_55 ?_
        have e9 : sm_look G S n x1 = ((upd G 3 0) 2, upd G 3 0) := by unfold sm_look; simp only [if_neg c_6_0, if_neg c_6_1, if_pos c_6_2]
        exact hw_iret C T rfl (by rw [e9]) (by rw [e9]) dX3_look_58
      · skip
        by_cases c_6_3 : x1 = 3
        · skip
          refine lv_tableIn (off := 53) (tgt := 59) hx hb dX3_look_6 (by rw [c_6_3]; decide) (by rw [c_6_3]; decide) (by rw [c_6_3]; decide +kernel) (by decide) ?_
          refine lv_aload_n hx hb dX3_look_59 rfl (lv_at hl 0 rfl) ?_
          refine hw_Vi (As := []) (rest := []) C T (c_M_many (hg_up (by decide) hG)) (cwV 0 hts (x3_in k3_m109 k3_i_many k3_s_many k3_ini k3_c_many) rfl rfl rfl (by decide +kernel) ⟨Nat.le_of_ble_eq_true rfl, Nat.le_of_ble_eq_true rfl⟩) md_isO md_ad rfl hl.1 rfl (Nat.le_of_ble_eq_true rfl) dX3_look_60 ⟨Nat.zero_le _, Nat.zero_le _⟩ (fun H locs T => ?_)
          have e9 : sm_look G S n x1 = (sm_many S n, upd G 3 0) := by unfold sm_look; simp only [if_neg c_6_0, if_neg c_6_1, if_neg c_6_2, if_pos c_6_3]
          exact hw_iret C T rfl (by rw [e9]) (by rw [e9]) dX3_look_63
        · skip
          by_cases c_6_4 : x1 = 4
          · skip
            refine lv_tableIn (off := 58) (tgt := 64) hx hb dX3_look_6 (by rw [c_6_4]; decide) (by rw [c_6_4]; decide) (by rw [c_6_4]; decide +kernel) (by decide) ?_
            refine lv_aload_n hx hb dX3_look_64 rfl (lv_at hl 0 rfl) ?_
            refine va_get (D := D) (ci := 2) (v := .int ((upd G 3 0) 5)) (C := RX3) (T := TX3) (N := 19) hx hb hts hinM hown hK T.1 0 rfl rfl 17 (by decide) (hts _ (List.mem_cons_of_mem _ k3_f50)) (fun _ h9 => h9) rfl dX3_look_65 ?_
            have e9 : sm_look G S n x1 = ((upd G 3 0) 5, upd G 3 0) := by unfold sm_look; simp only [if_neg c_6_0, if_neg c_6_1, if_neg c_6_2, if_neg c_6_3, if_pos c_6_4]
            exact hw_iret C T rfl (by rw [e9]) (by rw [e9]) dX3_look_68
          · skip
            by_cases c_6_5 : x1 = 5
            · skip
              refine lv_tableIn (off := 63) (tgt := 69) hx hb dX3_look_6 (by rw [c_6_5]; decide) (by rw [c_6_5]; decide) (by rw [c_6_5]; decide +kernel) (by decide) ?_
              refine lv_aload_n hx hb dX3_look_69 rfl (lv_at hl 0 rfl) ?_
              refine va_get (D := D) (ci := 2) (v := .int ((upd G 3 0) 4)) (C := RX3) (T := TX3) (N := 19) hx hb hts hinM hown hK T.1 0 rfl rfl 18 (by decide) (hts _ (List.mem_cons_of_mem _ k3_f73)) (fun _ h9 => h9) rfl dX3_look_70 ?_
              have e9 : sm_look G S n x1 = ((upd G 3 0) 4, upd G 3 0) := by unfold sm_look; simp only [if_neg c_6_0, if_neg c_6_1, if_neg c_6_2, if_neg c_6_3, if_neg c_6_4, if_pos c_6_5]
              exact hw_iret C T rfl (by rw [e9]) (by rw [e9]) dX3_look_73
            · skip
              refine lv_tableOut (tgt := 74) hx hb dX3_look_6 (by have z0 := lv_neT (a := 0) c_6_0 (by decide); have z1 := lv_neT (a := 1) c_6_1 (by decide); have z2 := lv_neT (a := 2) c_6_2 (by decide); have z3 := lv_neT (a := 3) c_6_3 (by decide); have z4 := lv_neT (a := 4) c_6_4 (by decide); have z5 := lv_neT (a := 5) c_6_5 (by decide); omega) (by decide) ?_
              refine lv_iconst (v := (-1)) hx hb dX3_look_74 (by decide) ?_
              have e9 : sm_look G S n x1 = ((-1), upd G 3 0) := by unfold sm_look; simp only [if_neg c_6_0, if_neg c_6_1, if_neg c_6_2, if_neg c_6_3, if_neg c_6_4, if_neg c_6_5]
              exact hw_iret C T rfl (by rw [e9]) (by rw [e9]) dX3_look_75
end
