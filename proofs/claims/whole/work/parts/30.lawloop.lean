theorem lp_c {L i : Nat} (hL : L ≤ 3072) (hi : i ≤ 3100) : (Int32.ofNat L - 6 < nI i) ↔ L < i + 6 := by
  rw [Int32.lt_iff_toInt_lt, show Int32.ofNat L - 6 = nI L - nI 6 from rfl, pk_sub_toInt (by omega) (by omega), nI_toInt (show i < 2 ^ 31 by omega)]
  omega
/-! THE LAW'S LOOP: at its head the hall and the reference agree. -/
theorem md_eq {o : Nat} {am : Nat → Nat} {cm : Nat → ClassId} {Ga Gb : Nat → Int32} {Sa Sb : Nat → Nat → Int32} {B : Nat → Int32} (hG : ∀ k, k ≠ 3 → Gb k = Ga k) (hS : ∀ j k, k ≠ 5 → Sb j k = Sa j k) : md_W o am cm Gb Sb B = md_W o am cm (upd Ga 3 (Gb 3)) Sa B := by
  have e1 : upd Ga 3 (Gb 3) = Gb := by
    funext k
    by_cases h : k = 3
    · subst h
      simp [upd]
    · simp [upd, h, hG k h]
  rw [e1]
  unfold md_W
  rw [show (fun j => Sb j 0) = (fun j => Sa j 0) from funext (fun j => hS j 0 (by decide)), show (fun j => Sb j 1) = (fun j => Sa j 1) from funext (fun j => hS j 1 (by decide)), show (fun j => Sb j 2) = (fun j => Sa j 2) from funext (fun j => hS j 2 (by decide)), show (fun j => Sb j 3) = (fun j => Sa j 3) from funext (fun j => hS j 3 (by decide)), show (fun j => Sb j 4) = (fun j => Sa j 4) from funext (fun j => hS j 4 (by decide)), show (fun j => Sb j 6) = (fun j => Sa j 6) from funext (fun j => hS j 6 (by decide)), show (fun j => Sb j 7) = (fun j => Sa j 7) from funext (fun j => hS j 7 (by decide)), show (fun j => Sb j 8) = (fun j => Sa j 8) from funext (fun j => hS j 8 (by decide)), show (fun j => Sb j 9) = (fun j => Sa j 9) from funext (fun j => hS j 9 (by decide)), show (fun j => Sb j 10) = (fun j => Sa j 10) from funext (fun j => hS j 10 (by decide)), show (fun j => Sb j 11) = (fun j => Sa j 11) from funext (fun j => hS j 11 (by decide)), show (fun j => Sb j 12) = (fun j => Sa j 12) from funext (fun j => hS j 12 (by decide))]
set_option maxHeartbeats 4000000 in
set_option maxRecDepth 100000 in
theorem law_loop {p : Program} {l : Launch} {e : Env} {s : State} {m : MethodId} {below : List Frame} {meth : Method} {c : Code} {b L : Nat} {xs : Nat → Int32} (hL : L ≤ 3072) (C0 : lw_At p s m meth c b L xs) {D : va_G} {h a o : Nat} {ad am : Nat → Nat} {cA : ClassId} {cm : Nat → ClassId} (hK : va_K D vwCl ((cA, .object RX0) :: md_tys cm) s) :
    ∀ (f i : Nat) (τ : Int32) (G : Nat → Int32) (S : Nat → Nat → Int32) (B : Nat → Int32) (nn : Nat), L + 1 ≤ i + f → i ≤ L + 6 → LI G S B nn → ∀ (H : Heap) (locs : List Loc), hw_T2 D (fun q : Nat => s.heap.size ≤ q) s.heap (hw_W h a ad cA G S) (md_W o am cm (upd G 3 τ) S B) H locs → ∀ (ls : Array Slot), lv_has ls 4 [(0, .ref b), (1, .ref h), (2, .ref o), (3, .int (nI i))] → W p l e room_1 s m #[Value.ref b] below meth c H locs 48 1882 (lw_Z below #[Value.ref b] s) (F0 m 18 ls []) := by
  obtain ⟨hx, hb, hr, hml, hown, hts, hX, hbl, hlocks, hgv⟩ := C0
  have hown : s.vm.findClass RL = some m.cls := hown
  have hbA : ¬ (fun q : Nat => s.heap.size ≤ q) b := Nat.not_le.mpr hbl
  have C : hw_C p s m #[Value.ref b] meth c cL_law ret 4 lw_tbl RL D ((cA, .object RX0) :: md_tys cm) (fun q : Nat => s.heap.size ≤ q) := ⟨⟨hx, hb, hml, hown, hts⟩, hr, hlocks, hK, hw_N.of hts, fun _ h => h⟩
  intro f
  induction f with
  | zero =>
    intro i τ G S B nn h1 h2 li H locs T ls hl
    refine lv_iload_n hx hb dL_law_18 rfl (lv_at hl 3 rfl) ?_
    refine lv_aload_n hx hb dL_law_19 rfl (lv_at hl 0 rfl) ?_
    refine va_slen hx hb hX hbl hbA T.2.2.2 dL_law_20 ?_
    refine lv_bipush (v := 6) hx hb dL_law_21 (by decide) ?_
    refine lv_isub hx hb dL_law_23 ?_
    refine lv_icmp_gt (tgt := 454) hx hb dL_law_24 (by decide) (fun _ => ?_) (fun q => absurd ((lp_c hL (show i ≤ 3100 by omega)).mpr (by omega)) q)
    refine lv_iconst (v := 1) hx hb dL_law_454 (by decide) ?_
    refine va_forget (fun q hq => T.2.2.2.2.2 q hq) ?_
    refine W.widen (k := 600000) (n := 7302250) (by decide) (by decide) ?_
    exact lw_ret hx hb hr hlocks dL_law_455
  | succ f ih =>
    intro i τ G S B nn h1 h2 li H locs T ls hl
    refine lv_iload_n hx hb dL_law_18 rfl (lv_at hl 3 rfl) ?_
    refine lv_aload_n hx hb dL_law_19 rfl (lv_at hl 0 rfl) ?_
    refine va_slen hx hb hX hbl hbA T.2.2.2 dL_law_20 ?_
    refine lv_bipush (v := 6) hx hb dL_law_21 (by decide) ?_
    refine lv_isub hx hb dL_law_23 ?_
    refine lv_icmp_gt (tgt := 454) hx hb dL_law_24 (by decide) (fun _ => ?_) (fun q => ?_)
    · skip
      refine lv_iconst (v := 1) hx hb dL_law_454 (by decide) ?_
      refine va_forget (fun q hq => T.2.2.2.2.2 q hq) ?_
      refine W.widen (k := 600000) (n := 7302250) (by decide) (by decide) ?_
      exact lw_ret hx hb hr hlocks dL_law_455
    have hi : i + 6 ≤ L := by
      rcases Nat.lt_or_ge L (i + 6) with h | h
      · exact absurd ((lp_c hL (show i ≤ 3100 by omega)).mpr h) q
      · exact h
    have tail : ∀ (τ : Int32) (G : Nat → Int32) (S : Nat → Nat → Int32) (B : Nat → Int32) (nn : Nat), LI G S B nn → ∀ (H : Heap) (locs : List Loc), hw_T2 D (fun q : Nat => s.heap.size ≤ q) s.heap (hw_W h a ad cA G S) (md_W o am cm (upd G 3 τ) S B) H locs → ∀ (ls : Array Slot), lv_has ls 4 [(0, .ref b), (1, .ref h), (2, .ref o), (3, .int (nI i))] → W p l e room_1 s m #[Value.ref b] below meth c H locs 48 1882 (lw_Z below #[Value.ref b] s) (F0 m 448 ls []) := by
      intro τ G S B nn li H locs T ls hl
      refine lv_iinc (v := nI (i + 6)) (lv' := [(3, .int (nI (i + 6))), (0, .ref b), (1, .ref h), (2, .ref o)]) hx hb dL_law_448 hl (k := 3) rfl (nI_add i 6) (by decide) rfl (fun ls hl => ?_)
      refine lv_goto (tgt := 18) hx hb dL_law_451 (by decide) ?_
      exact ih (i + 6) τ G S B nn (by omega) (by omega) li _ _ T _ (lv_sub hl [1, 2, 3, 0] rfl)
    have fin : ∀ {ra : Int32} {Ga : Nat → Int32} {Sa : Nat → Nat → Int32} {rb : Int32} {Gb : Nat → Int32} {Sb : Nat → Nat → Int32} {Bb : Nat → Int32}, LR ra Ga Sa rb Gb Sb Bb → ∀ (H : Heap) (locs : List Loc), hw_T2 D (fun q : Nat => s.heap.size ≤ q) s.heap (md_W o am cm Gb Sb Bb) (hw_W h a ad cA Ga Sa) H locs → ∀ (ls : Array Slot), lv_has ls 4 [(0, .ref b), (1, .ref h), (2, .ref o), (3, .int (nI i))] → W p l e room_1 s m #[Value.ref b] below meth c H locs 48 1882 (lw_Z below #[Value.ref b] s) (F0 m 448 ls []) := by
      intro ra Ga Sa rb Gb Sb Bb lr H locs T ls hl
      obtain ⟨n2, li2⟩ := lr.2.2.2
      have T := T.swap
      rw [md_eq lr.2.1 lr.2.2.1] at T
      exact tail _ _ _ _ n2 li2 H locs T ls hl
    have hv : ∀ k : Nat, 0 < k → k < 6 → vp_in (nI i + nI k) L := fun k h3 h4 => by
      rw [nI_add]
      exact vp_in_nI (by omega) (by omega)
    have h_0 : vp_in (nI i) L := vp_in_nI (by omega) (by omega)
    refine lv_aload_n hx hb dL_law_27 rfl (lv_at hl 0 rfl) ?_
    refine lv_iload_n hx hb dL_law_28 rfl (lv_at hl 3 rfl) ?_
    refine va_sld hx hb hX hbl hbA T.2.2.2 h_0 dL_law_29 ?_
    refine lv_bipush (v := 15) hx hb dL_law_30 (by decide) ?_
    refine lv_iand hx hb dL_law_32 ?_
    refine lv_topi (fun z ez => ?_)
    by_cases z_0 : z = 0
    · skip
      refine lv_tableIn (off := 63) (tgt := 96) hx hb dL_law_33 (by rw [z_0]; decide) (by rw [z_0]; decide) (by rw [z_0]; decide +kernel) (by decide) ?_
      refine lv_aload_n hx hb dL_law_96 rfl (lv_at hl 1 rfl) ?_
      refine lv_aload_n hx hb dL_law_97 rfl (lv_at hl 0 rfl) ?_
      refine lv_iload_n hx hb dL_law_98 rfl (lv_at hl 3 rfl) ?_
      refine lv_iconst (v := 1) hx hb dL_law_99 (by decide) ?_
      refine lv_iadd hx hb dL_law_100 ?_
      refine va_sld hx hb hX hbl hbA T.2.2.2 (hv 1 (by decide) (by decide)) dL_law_101 ?_
      refine lv_aload_n hx hb dL_law_102 rfl (lv_at hl 0 rfl) ?_
      refine lv_iload_n hx hb dL_law_103 rfl (lv_at hl 3 rfl) ?_
      refine lv_iconst (v := 2) hx hb dL_law_104 (by decide) ?_
      refine lv_iadd hx hb dL_law_105 ?_
      refine va_sld hx hb hX hbl hbA T.2.2.2 (hv 2 (by decide) (by decide)) dL_law_106 ?_
      refine lv_aload_n hx hb dL_law_107 rfl (lv_at hl 0 rfl) ?_
      refine lv_iload_n hx hb dL_law_108 rfl (lv_at hl 3 rfl) ?_
      refine lv_iconst (v := 3) hx hb dL_law_109 (by decide) ?_
      refine lv_iadd hx hb dL_law_110 ?_
      refine va_sld hx hb hX hbl hbA T.2.2.2 (hv 3 (by decide) (by decide)) dL_law_111 ?_
      refine lv_aload_n hx hb dL_law_112 rfl (lv_at hl 0 rfl) ?_
      refine lv_iload_n hx hb dL_law_113 rfl (lv_at hl 3 rfl) ?_
      refine lv_iconst (v := 4) hx hb dL_law_114 (by decide) ?_
      refine lv_iadd hx hb dL_law_115 ?_
      refine va_sld hx hb hX hbl hbA T.2.2.2 (hv 4 (by decide) (by decide)) dL_law_116 ?_
      refine lv_aload_n hx hb dL_law_117 rfl (lv_at hl 0 rfl) ?_
      refine lv_iload_n hx hb dL_law_118 rfl (lv_at hl 3 rfl) ?_
      refine lv_iconst (v := 5) hx hb dL_law_119 (by decide) ?_
      refine lv_iadd hx hb dL_law_120 ?_
      refine va_sld hx hb hX hbl hbA T.2.2.2 (hv 5 (by decide) (by decide)) dL_law_121 ?_
      refine hw_2i (As := [.int (xs (nI i + 1).toNatClampNeg), .int (xs (nI i + 2).toNatClampNeg), .int (xs (nI i + 3).toNatClampNeg), .int (xs (nI i + 4).toNatClampNeg), .int (xs (nI i + 5).toNatClampNeg)]) (rest := []) C T (c_H_sector li.1) (cwV 5 hts lx_sector rfl rfl rfl (by decide +kernel) ⟨Nat.le_of_ble_eq_true rfl, Nat.le_of_ble_eq_true rfl⟩) hw_isH hw_ad rfl hl.1 rfl (Nat.le_of_ble_eq_true rfl) dL_law_122 ⟨Nat.le_of_ble_eq_true rfl, Nat.le_of_ble_eq_true rfl⟩ (fun H locs T => ?_)
      have T := T.swap
      refine lv_aload_n hx hb dL_law_125 rfl (lv_at hl 2 rfl) ?_
      refine lv_aload_n hx hb dL_law_126 rfl (lv_at hl 0 rfl) ?_
      refine lv_iload_n hx hb dL_law_127 rfl (lv_at hl 3 rfl) ?_
      refine lv_iconst (v := 1) hx hb dL_law_128 (by decide) ?_
      refine lv_iadd hx hb dL_law_129 ?_
      refine va_sld hx hb hX hbl hbA T.2.2.2 (hv 1 (by decide) (by decide)) dL_law_130 ?_
      refine lv_aload_n hx hb dL_law_131 rfl (lv_at hl 0 rfl) ?_
      refine lv_iload_n hx hb dL_law_132 rfl (lv_at hl 3 rfl) ?_
      refine lv_iconst (v := 2) hx hb dL_law_133 (by decide) ?_
      refine lv_iadd hx hb dL_law_134 ?_
      refine va_sld hx hb hX hbl hbA T.2.2.2 (hv 2 (by decide) (by decide)) dL_law_135 ?_
      refine lv_aload_n hx hb dL_law_136 rfl (lv_at hl 0 rfl) ?_
      refine lv_iload_n hx hb dL_law_137 rfl (lv_at hl 3 rfl) ?_
      refine lv_iconst (v := 3) hx hb dL_law_138 (by decide) ?_
      refine lv_iadd hx hb dL_law_139 ?_
      refine va_sld hx hb hX hbl hbA T.2.2.2 (hv 3 (by decide) (by decide)) dL_law_140 ?_
      refine lv_aload_n hx hb dL_law_141 rfl (lv_at hl 0 rfl) ?_
      refine lv_iload_n hx hb dL_law_142 rfl (lv_at hl 3 rfl) ?_
      refine lv_iconst (v := 4) hx hb dL_law_143 (by decide) ?_
      refine lv_iadd hx hb dL_law_144 ?_
      refine va_sld hx hb hX hbl hbA T.2.2.2 (hv 4 (by decide) (by decide)) dL_law_145 ?_
      refine lv_aload_n hx hb dL_law_146 rfl (lv_at hl 0 rfl) ?_
      refine lv_iload_n hx hb dL_law_147 rfl (lv_at hl 3 rfl) ?_
      refine lv_iconst (v := 5) hx hb dL_law_148 (by decide) ?_
      refine lv_iadd hx hb dL_law_149 ?_
      refine va_sld hx hb hX hbl hbA T.2.2.2 (hv 5 (by decide) (by decide)) dL_law_150 ?_
      refine hw_2i (As := [.int (xs (nI i + 1).toNatClampNeg), .int (xs (nI i + 2).toNatClampNeg), .int (xs (nI i + 3).toNatClampNeg), .int (xs (nI i + 4).toNatClampNeg), .int (xs (nI i + 5).toNatClampNeg)]) (rest := [.int ((sp_sector G S nn (xs (nI i + 1).toNatClampNeg) (xs (nI i + 2).toNatClampNeg) (xs (nI i + 3).toNatClampNeg) (xs (nI i + 4).toNatClampNeg) (xs (nI i + 5).toNatClampNeg)).1)]) C T (c_M_sector (hg_up (by decide) li.1)) (cwV 5 hts ly_sector rfl rfl rfl (by decide +kernel) ⟨Nat.le_of_ble_eq_true rfl, Nat.le_of_ble_eq_true rfl⟩) md_isO md_ad rfl hl.1 rfl (Nat.le_of_ble_eq_true rfl) dL_law_151 ⟨Nat.le_of_ble_eq_true rfl, Nat.le_of_ble_eq_true rfl⟩ (fun H locs T => ?_)
      have lr := L_sector (τ := τ) (x1 := xs (nI i + 1).toNatClampNeg) (x2 := xs (nI i + 2).toNatClampNeg) (x3 := xs (nI i + 3).toNatClampNeg) (x4 := xs (nI i + 4).toNatClampNeg) (x5 := xs (nI i + 5).toNatClampNeg) li
      refine lv_icmp_eq (tgt := 448) hx hb dL_law_154 (by decide) (fun _ => ?_) (fun q => absurd lr.1 q)
      exact fin lr _ _ T _ hl
    by_cases z_1 : z = 1
    · skip
      refine lv_tableIn (off := 126) (tgt := 159) hx hb dL_law_33 (by rw [z_1]; decide) (by rw [z_1]; decide) (by rw [z_1]; decide +kernel) (by decide) ?_
      refine lv_aload_n hx hb dL_law_159 rfl (lv_at hl 1 rfl) ?_
      refine lv_aload_n hx hb dL_law_160 rfl (lv_at hl 0 rfl) ?_
      refine lv_iload_n hx hb dL_law_161 rfl (lv_at hl 3 rfl) ?_
      refine lv_iconst (v := 1) hx hb dL_law_162 (by decide) ?_
      refine lv_iadd hx hb dL_law_163 ?_
      refine va_sld hx hb hX hbl hbA T.2.2.2 (hv 1 (by decide) (by decide)) dL_law_164 ?_
      refine lv_aload_n hx hb dL_law_165 rfl (lv_at hl 0 rfl) ?_
      refine lv_iload_n hx hb dL_law_166 rfl (lv_at hl 3 rfl) ?_
      refine lv_iconst (v := 2) hx hb dL_law_167 (by decide) ?_
      refine lv_iadd hx hb dL_law_168 ?_
      refine va_sld hx hb hX hbl hbA T.2.2.2 (hv 2 (by decide) (by decide)) dL_law_169 ?_
      refine hw_2i (As := [.int (xs (nI i + 1).toNatClampNeg), .int (xs (nI i + 2).toNatClampNeg)]) (rest := []) C T (c_H_join li.1) (cwV 2 hts lx_join rfl rfl rfl (by decide +kernel) ⟨Nat.le_of_ble_eq_true rfl, Nat.le_of_ble_eq_true rfl⟩) hw_isH hw_ad rfl hl.1 rfl (Nat.le_of_ble_eq_true rfl) dL_law_170 ⟨Nat.le_of_ble_eq_true rfl, Nat.le_of_ble_eq_true rfl⟩ (fun H locs T => ?_)
      have T := T.swap
      refine lv_aload_n hx hb dL_law_173 rfl (lv_at hl 2 rfl) ?_
      refine lv_aload_n hx hb dL_law_174 rfl (lv_at hl 0 rfl) ?_
      refine lv_iload_n hx hb dL_law_175 rfl (lv_at hl 3 rfl) ?_
      refine lv_iconst (v := 1) hx hb dL_law_176 (by decide) ?_
      refine lv_iadd hx hb dL_law_177 ?_
      refine va_sld hx hb hX hbl hbA T.2.2.2 (hv 1 (by decide) (by decide)) dL_law_178 ?_
      refine lv_aload_n hx hb dL_law_179 rfl (lv_at hl 0 rfl) ?_
      refine lv_iload_n hx hb dL_law_180 rfl (lv_at hl 3 rfl) ?_
      refine lv_iconst (v := 2) hx hb dL_law_181 (by decide) ?_
      refine lv_iadd hx hb dL_law_182 ?_
      refine va_sld hx hb hX hbl hbA T.2.2.2 (hv 2 (by decide) (by decide)) dL_law_183 ?_
      refine hw_2i (As := [.int (xs (nI i + 1).toNatClampNeg), .int (xs (nI i + 2).toNatClampNeg)]) (rest := [.int ((sp_join G S (xs (nI i + 1).toNatClampNeg) (xs (nI i + 2).toNatClampNeg)).1)]) C T (c_M_join (hg_up (by decide) li.1)) (cwV 2 hts ly_join rfl rfl rfl (by decide +kernel) ⟨Nat.le_of_ble_eq_true rfl, Nat.le_of_ble_eq_true rfl⟩) md_isO md_ad rfl hl.1 rfl (Nat.le_of_ble_eq_true rfl) dL_law_184 ⟨Nat.le_of_ble_eq_true rfl, Nat.le_of_ble_eq_true rfl⟩ (fun H locs T => ?_)
      have lr := L_join (τ := τ) (x1 := xs (nI i + 1).toNatClampNeg) (x2 := xs (nI i + 2).toNatClampNeg) li
      refine lv_icmp_eq (tgt := 448) hx hb dL_law_187 (by decide) (fun _ => ?_) (fun q => absurd lr.1 q)
      exact fin lr _ _ T _ hl
    by_cases z_2 : z = 2
    · skip
      refine lv_tableIn (off := 159) (tgt := 192) hx hb dL_law_33 (by rw [z_2]; decide) (by rw [z_2]; decide) (by rw [z_2]; decide +kernel) (by decide) ?_
      refine lv_aload_n hx hb dL_law_192 rfl (lv_at hl 1 rfl) ?_
      refine hw_2v (As := []) (rest := []) C T (c_H_reset li.1) (cwV 0 hts lx_reset rfl rfl rfl (by decide +kernel) ⟨Nat.le_of_ble_eq_true rfl, Nat.le_of_ble_eq_true rfl⟩) hw_isH hw_ad rfl hl.1 rfl (Nat.le_of_ble_eq_true rfl) dL_law_193 ⟨Nat.le_of_ble_eq_true rfl, Nat.le_of_ble_eq_true rfl⟩ (fun H locs T => ?_)
      have T := T.swap
      refine lv_aload_n hx hb dL_law_196 rfl (lv_at hl 2 rfl) ?_
      refine hw_2v (As := []) (rest := []) C T (c_M_reset (hg_up (by decide) li.1)) (cwV 0 hts ly_reset rfl rfl rfl (by decide +kernel) ⟨Nat.le_of_ble_eq_true rfl, Nat.le_of_ble_eq_true rfl⟩) md_isO md_ad rfl hl.1 rfl (Nat.le_of_ble_eq_true rfl) dL_law_197 ⟨Nat.le_of_ble_eq_true rfl, Nat.le_of_ble_eq_true rfl⟩ (fun H locs T => ?_)
      have lr := L_reset (τ := τ)  li
      refine lv_goto (tgt := 448) hx hb dL_law_200 (by decide) ?_
      exact fin lr _ _ T _ hl
    by_cases z_3 : z = 3
    · skip
      refine lv_tableIn (off := 170) (tgt := 203) hx hb dL_law_33 (by rw [z_3]; decide) (by rw [z_3]; decide) (by rw [z_3]; decide +kernel) (by decide) ?_
      refine lv_aload_n hx hb dL_law_203 rfl (lv_at hl 1 rfl) ?_
      refine hw_2v (As := []) (rest := []) C T (c_H_clear li.1) (cwV 0 hts lx_clear rfl rfl rfl (by decide +kernel) ⟨Nat.le_of_ble_eq_true rfl, Nat.le_of_ble_eq_true rfl⟩) hw_isH hw_ad rfl hl.1 rfl (Nat.le_of_ble_eq_true rfl) dL_law_204 ⟨Nat.le_of_ble_eq_true rfl, Nat.le_of_ble_eq_true rfl⟩ (fun H locs T => ?_)
      have T := T.swap
      refine lv_aload_n hx hb dL_law_207 rfl (lv_at hl 2 rfl) ?_
      refine hw_2v (As := []) (rest := []) C T (c_M_clear) (cwV 0 hts ly_clear rfl rfl rfl (by decide +kernel) ⟨Nat.le_of_ble_eq_true rfl, Nat.le_of_ble_eq_true rfl⟩) md_isO md_ad rfl hl.1 rfl (Nat.le_of_ble_eq_true rfl) dL_law_208 ⟨Nat.le_of_ble_eq_true rfl, Nat.le_of_ble_eq_true rfl⟩ (fun H locs T => ?_)
      have lr := L_clear (τ := τ)  li
      refine lv_goto (tgt := 448) hx hb dL_law_211 (by decide) ?_
      exact fin lr _ _ T _ hl
    by_cases z_4 : z = 4
    · skip
      refine lv_tableIn (off := 181) (tgt := 214) hx hb dL_law_33 (by rw [z_4]; decide) (by rw [z_4]; decide) (by rw [z_4]; decide +kernel) (by decide) ?_
      refine lv_aload_n hx hb dL_law_214 rfl (lv_at hl 1 rfl) ?_
      refine lv_aload_n hx hb dL_law_215 rfl (lv_at hl 0 rfl) ?_
      refine lv_iload_n hx hb dL_law_216 rfl (lv_at hl 3 rfl) ?_
      refine lv_iconst (v := 1) hx hb dL_law_217 (by decide) ?_
      refine lv_iadd hx hb dL_law_218 ?_
      refine va_sld hx hb hX hbl hbA T.2.2.2 (hv 1 (by decide) (by decide)) dL_law_219 ?_
      refine lv_aload_n hx hb dL_law_220 rfl (lv_at hl 0 rfl) ?_
      refine lv_iload_n hx hb dL_law_221 rfl (lv_at hl 3 rfl) ?_
      refine lv_iconst (v := 2) hx hb dL_law_222 (by decide) ?_
      refine lv_iadd hx hb dL_law_223 ?_
      refine va_sld hx hb hX hbl hbA T.2.2.2 (hv 2 (by decide) (by decide)) dL_law_224 ?_
      refine hw_2i (As := [.int (xs (nI i + 1).toNatClampNeg), .int (xs (nI i + 2).toNatClampNeg)]) (rest := []) C T (c_H_begin li.1) (cwV 2 hts lx_begin rfl rfl rfl (by decide +kernel) ⟨Nat.le_of_ble_eq_true rfl, Nat.le_of_ble_eq_true rfl⟩) hw_isH hw_ad rfl hl.1 rfl (Nat.le_of_ble_eq_true rfl) dL_law_225 ⟨Nat.le_of_ble_eq_true rfl, Nat.le_of_ble_eq_true rfl⟩ (fun H locs T => ?_)
      have T := T.swap
      refine lv_aload_n hx hb dL_law_228 rfl (lv_at hl 2 rfl) ?_
      refine lv_aload_n hx hb dL_law_229 rfl (lv_at hl 0 rfl) ?_
      refine lv_iload_n hx hb dL_law_230 rfl (lv_at hl 3 rfl) ?_
      refine lv_iconst (v := 1) hx hb dL_law_231 (by decide) ?_
      refine lv_iadd hx hb dL_law_232 ?_
      refine va_sld hx hb hX hbl hbA T.2.2.2 (hv 1 (by decide) (by decide)) dL_law_233 ?_
      refine lv_aload_n hx hb dL_law_234 rfl (lv_at hl 0 rfl) ?_
      refine lv_iload_n hx hb dL_law_235 rfl (lv_at hl 3 rfl) ?_
      refine lv_iconst (v := 2) hx hb dL_law_236 (by decide) ?_
      refine lv_iadd hx hb dL_law_237 ?_
      refine va_sld hx hb hX hbl hbA T.2.2.2 (hv 2 (by decide) (by decide)) dL_law_238 ?_
      refine hw_2i (As := [.int (xs (nI i + 1).toNatClampNeg), .int (xs (nI i + 2).toNatClampNeg)]) (rest := [.int ((sp_begin G S nn (xs (nI i + 1).toNatClampNeg) (xs (nI i + 2).toNatClampNeg)).1)]) C T (c_M_begin (hg_up (by decide) li.1)) (cwV 2 hts ly_begin rfl rfl rfl (by decide +kernel) ⟨Nat.le_of_ble_eq_true rfl, Nat.le_of_ble_eq_true rfl⟩) md_isO md_ad rfl hl.1 rfl (Nat.le_of_ble_eq_true rfl) dL_law_239 ⟨Nat.le_of_ble_eq_true rfl, Nat.le_of_ble_eq_true rfl⟩ (fun H locs T => ?_)
      have lr := L_begin (τ := τ) (x1 := xs (nI i + 1).toNatClampNeg) (x2 := xs (nI i + 2).toNatClampNeg) li
      refine lv_icmp_eq (tgt := 448) hx hb dL_law_242 (by decide) (fun _ => ?_) (fun q => absurd lr.1 q)
      exact fin lr _ _ T _ hl
    by_cases z_5 : z = 5
    · skip
      refine lv_tableIn (off := 214) (tgt := 247) hx hb dL_law_33 (by rw [z_5]; decide) (by rw [z_5]; decide) (by rw [z_5]; decide +kernel) (by decide) ?_
      refine lv_aload_n hx hb dL_law_247 rfl (lv_at hl 1 rfl) ?_
      refine lv_aload_n hx hb dL_law_248 rfl (lv_at hl 0 rfl) ?_
      refine lv_iload_n hx hb dL_law_249 rfl (lv_at hl 3 rfl) ?_
      refine lv_iconst (v := 1) hx hb dL_law_250 (by decide) ?_
      refine lv_iadd hx hb dL_law_251 ?_
      refine va_sld hx hb hX hbl hbA T.2.2.2 (hv 1 (by decide) (by decide)) dL_law_252 ?_
      refine lv_aload_n hx hb dL_law_253 rfl (lv_at hl 0 rfl) ?_
      refine lv_iload_n hx hb dL_law_254 rfl (lv_at hl 3 rfl) ?_
      refine lv_iconst (v := 2) hx hb dL_law_255 (by decide) ?_
      refine lv_iadd hx hb dL_law_256 ?_
      refine va_sld hx hb hX hbl hbA T.2.2.2 (hv 2 (by decide) (by decide)) dL_law_257 ?_
      refine hw_2i (As := [.int (xs (nI i + 1).toNatClampNeg), .int (xs (nI i + 2).toNatClampNeg)]) (rest := []) C T (c_H_tag li.1) (cwV 2 hts lx_tag rfl rfl rfl (by decide +kernel) ⟨Nat.le_of_ble_eq_true rfl, Nat.le_of_ble_eq_true rfl⟩) hw_isH hw_ad rfl hl.1 rfl (Nat.le_of_ble_eq_true rfl) dL_law_258 ⟨Nat.le_of_ble_eq_true rfl, Nat.le_of_ble_eq_true rfl⟩ (fun H locs T => ?_)
      have T := T.swap
      refine lv_aload_n hx hb dL_law_261 rfl (lv_at hl 2 rfl) ?_
      refine lv_aload_n hx hb dL_law_262 rfl (lv_at hl 0 rfl) ?_
      refine lv_iload_n hx hb dL_law_263 rfl (lv_at hl 3 rfl) ?_
      refine lv_iconst (v := 1) hx hb dL_law_264 (by decide) ?_
      refine lv_iadd hx hb dL_law_265 ?_
      refine va_sld hx hb hX hbl hbA T.2.2.2 (hv 1 (by decide) (by decide)) dL_law_266 ?_
      refine lv_aload_n hx hb dL_law_267 rfl (lv_at hl 0 rfl) ?_
      refine lv_iload_n hx hb dL_law_268 rfl (lv_at hl 3 rfl) ?_
      refine lv_iconst (v := 2) hx hb dL_law_269 (by decide) ?_
      refine lv_iadd hx hb dL_law_270 ?_
      refine va_sld hx hb hX hbl hbA T.2.2.2 (hv 2 (by decide) (by decide)) dL_law_271 ?_
      refine hw_2i (As := [.int (xs (nI i + 1).toNatClampNeg), .int (xs (nI i + 2).toNatClampNeg)]) (rest := [.int ((sp_tag G S nn (xs (nI i + 1).toNatClampNeg) (xs (nI i + 2).toNatClampNeg)).1)]) C T (c_M_tag (hg_up (by decide) li.1)) (cwV 2 hts ly_tag rfl rfl rfl (by decide +kernel) ⟨Nat.le_of_ble_eq_true rfl, Nat.le_of_ble_eq_true rfl⟩) md_isO md_ad rfl hl.1 rfl (Nat.le_of_ble_eq_true rfl) dL_law_272 ⟨Nat.le_of_ble_eq_true rfl, Nat.le_of_ble_eq_true rfl⟩ (fun H locs T => ?_)
      have lr := L_tag (τ := τ) (x1 := xs (nI i + 1).toNatClampNeg) (x2 := xs (nI i + 2).toNatClampNeg) li
      refine lv_icmp_eq (tgt := 448) hx hb dL_law_275 (by decide) (fun _ => ?_) (fun q => absurd lr.1 q)
      exact fin lr _ _ T _ hl
    by_cases z_6 : z = 6
    · skip
      refine lv_tableIn (off := 247) (tgt := 280) hx hb dL_law_33 (by rw [z_6]; decide) (by rw [z_6]; decide) (by rw [z_6]; decide +kernel) (by decide) ?_
      refine lv_aload_n hx hb dL_law_280 rfl (lv_at hl 1 rfl) ?_
      refine lv_aload_n hx hb dL_law_281 rfl (lv_at hl 0 rfl) ?_
      refine lv_iload_n hx hb dL_law_282 rfl (lv_at hl 3 rfl) ?_
      refine lv_iconst (v := 1) hx hb dL_law_283 (by decide) ?_
      refine lv_iadd hx hb dL_law_284 ?_
      refine va_sld hx hb hX hbl hbA T.2.2.2 (hv 1 (by decide) (by decide)) dL_law_285 ?_
      refine hw_2i (As := [.int (xs (nI i + 1).toNatClampNeg)]) (rest := []) C T (c_H_enter) (cwV 1 hts lx_enter rfl rfl rfl (by decide +kernel) ⟨Nat.le_of_ble_eq_true rfl, Nat.le_of_ble_eq_true rfl⟩) hw_isH hw_ad rfl hl.1 rfl (Nat.le_of_ble_eq_true rfl) dL_law_286 ⟨Nat.le_of_ble_eq_true rfl, Nat.le_of_ble_eq_true rfl⟩ (fun H locs T => ?_)
      have T := T.swap
      refine lv_aload_n hx hb dL_law_289 rfl (lv_at hl 2 rfl) ?_
      refine lv_aload_n hx hb dL_law_290 rfl (lv_at hl 0 rfl) ?_
      refine lv_iload_n hx hb dL_law_291 rfl (lv_at hl 3 rfl) ?_
      refine lv_iconst (v := 1) hx hb dL_law_292 (by decide) ?_
      refine lv_iadd hx hb dL_law_293 ?_
      refine va_sld hx hb hX hbl hbA T.2.2.2 (hv 1 (by decide) (by decide)) dL_law_294 ?_
      refine hw_2i (As := [.int (xs (nI i + 1).toNatClampNeg)]) (rest := [.int ((sp_enter G S (xs (nI i + 1).toNatClampNeg)).1)]) C T (c_M_enter) (cwV 1 hts ly_enter rfl rfl rfl (by decide +kernel) ⟨Nat.le_of_ble_eq_true rfl, Nat.le_of_ble_eq_true rfl⟩) md_isO md_ad rfl hl.1 rfl (Nat.le_of_ble_eq_true rfl) dL_law_295 ⟨Nat.le_of_ble_eq_true rfl, Nat.le_of_ble_eq_true rfl⟩ (fun H locs T => ?_)
      have lr := L_enter (τ := τ) (x1 := xs (nI i + 1).toNatClampNeg) li
      refine lv_icmp_eq (tgt := 448) hx hb dL_law_298 (by decide) (fun _ => ?_) (fun q => absurd lr.1 q)
      exact fin lr _ _ T _ hl
    by_cases z_7 : z = 7
    · skip
      refine lv_tableIn (off := 270) (tgt := 303) hx hb dL_law_33 (by rw [z_7]; decide) (by rw [z_7]; decide) (by rw [z_7]; decide +kernel) (by decide) ?_
      refine lv_aload_n hx hb dL_law_303 rfl (lv_at hl 1 rfl) ?_
      refine lv_aload_n hx hb dL_law_304 rfl (lv_at hl 0 rfl) ?_
      refine lv_iload_n hx hb dL_law_305 rfl (lv_at hl 3 rfl) ?_
      refine lv_iconst (v := 1) hx hb dL_law_306 (by decide) ?_
      refine lv_iadd hx hb dL_law_307 ?_
      refine va_sld hx hb hX hbl hbA T.2.2.2 (hv 1 (by decide) (by decide)) dL_law_308 ?_
      refine hw_2i (As := [.int (xs (nI i + 1).toNatClampNeg)]) (rest := []) C T (c_H_ticks li.1) (cwV 1 hts lx_ticks rfl rfl rfl (by decide +kernel) ⟨Nat.le_of_ble_eq_true rfl, Nat.le_of_ble_eq_true rfl⟩) hw_isH hw_ad rfl hl.1 rfl (Nat.le_of_ble_eq_true rfl) dL_law_309 ⟨Nat.le_of_ble_eq_true rfl, Nat.le_of_ble_eq_true rfl⟩ (fun H locs T => ?_)
      have T := T.swap
      refine lv_aload_n hx hb dL_law_312 rfl (lv_at hl 2 rfl) ?_
      refine lv_aload_n hx hb dL_law_313 rfl (lv_at hl 0 rfl) ?_
      refine lv_iload_n hx hb dL_law_314 rfl (lv_at hl 3 rfl) ?_
      refine lv_iconst (v := 1) hx hb dL_law_315 (by decide) ?_
      refine lv_iadd hx hb dL_law_316 ?_
      refine va_sld hx hb hX hbl hbA T.2.2.2 (hv 1 (by decide) (by decide)) dL_law_317 ?_
      refine hw_2i (As := [.int (xs (nI i + 1).toNatClampNeg)]) (rest := [.int ((sp_ticks G S nn (xs (nI i + 1).toNatClampNeg)).1)]) C T (c_M_ticks (hg_up (by decide) li.1)) (cwV 1 hts ly_ticks rfl rfl rfl (by decide +kernel) ⟨Nat.le_of_ble_eq_true rfl, Nat.le_of_ble_eq_true rfl⟩) md_isO md_ad rfl hl.1 rfl (Nat.le_of_ble_eq_true rfl) dL_law_318 ⟨Nat.le_of_ble_eq_true rfl, Nat.le_of_ble_eq_true rfl⟩ (fun H locs T => ?_)
      have lr := L_ticks (τ := τ) (x1 := xs (nI i + 1).toNatClampNeg) li
      refine lv_icmp_eq (tgt := 448) hx hb dL_law_321 (by decide) (fun _ => ?_) (fun q => absurd lr.1 q)
      exact fin lr _ _ T _ hl
    by_cases z_8 : z = 8
    · skip
      refine lv_tableIn (off := 293) (tgt := 326) hx hb dL_law_33 (by rw [z_8]; decide) (by rw [z_8]; decide) (by rw [z_8]; decide +kernel) (by decide) ?_
      refine lv_aload_n hx hb dL_law_326 rfl (lv_at hl 1 rfl) ?_
      refine lv_aload_n hx hb dL_law_327 rfl (lv_at hl 0 rfl) ?_
      refine lv_iload_n hx hb dL_law_328 rfl (lv_at hl 3 rfl) ?_
      refine lv_iconst (v := 1) hx hb dL_law_329 (by decide) ?_
      refine lv_iadd hx hb dL_law_330 ?_
      refine va_sld hx hb hX hbl hbA T.2.2.2 (hv 1 (by decide) (by decide)) dL_law_331 ?_
      refine lv_aload_n hx hb dL_law_332 rfl (lv_at hl 0 rfl) ?_
      refine lv_iload_n hx hb dL_law_333 rfl (lv_at hl 3 rfl) ?_
      refine lv_iconst (v := 2) hx hb dL_law_334 (by decide) ?_
      refine lv_iadd hx hb dL_law_335 ?_
      refine va_sld hx hb hX hbl hbA T.2.2.2 (hv 2 (by decide) (by decide)) dL_law_336 ?_
      refine hw_2i (As := [.int (xs (nI i + 1).toNatClampNeg), .int (xs (nI i + 2).toNatClampNeg)]) (rest := []) C T (c_H_of li.1) (cwV 2 hts lx_of rfl rfl rfl (by decide +kernel) ⟨Nat.le_of_ble_eq_true rfl, Nat.le_of_ble_eq_true rfl⟩) hw_isH hw_ad rfl hl.1 rfl (Nat.le_of_ble_eq_true rfl) dL_law_337 ⟨Nat.le_of_ble_eq_true rfl, Nat.le_of_ble_eq_true rfl⟩ (fun H locs T => ?_)
      have T := T.swap
      refine lv_aload_n hx hb dL_law_340 rfl (lv_at hl 2 rfl) ?_
      refine lv_aload_n hx hb dL_law_341 rfl (lv_at hl 0 rfl) ?_
      refine lv_iload_n hx hb dL_law_342 rfl (lv_at hl 3 rfl) ?_
      refine lv_iconst (v := 1) hx hb dL_law_343 (by decide) ?_
      refine lv_iadd hx hb dL_law_344 ?_
      refine va_sld hx hb hX hbl hbA T.2.2.2 (hv 1 (by decide) (by decide)) dL_law_345 ?_
      refine lv_aload_n hx hb dL_law_346 rfl (lv_at hl 0 rfl) ?_
      refine lv_iload_n hx hb dL_law_347 rfl (lv_at hl 3 rfl) ?_
      refine lv_iconst (v := 2) hx hb dL_law_348 (by decide) ?_
      refine lv_iadd hx hb dL_law_349 ?_
      refine va_sld hx hb hX hbl hbA T.2.2.2 (hv 2 (by decide) (by decide)) dL_law_350 ?_
      refine hw_2i (As := [.int (xs (nI i + 1).toNatClampNeg), .int (xs (nI i + 2).toNatClampNeg)]) (rest := [.int (sp_of G S nn (xs (nI i + 1).toNatClampNeg) (xs (nI i + 2).toNatClampNeg))]) C T (c_M_of (hg_up (by decide) li.1)) (cwV 2 hts ly_of rfl rfl rfl (by decide +kernel) ⟨Nat.le_of_ble_eq_true rfl, Nat.le_of_ble_eq_true rfl⟩) md_isO md_ad rfl hl.1 rfl (Nat.le_of_ble_eq_true rfl) dL_law_351 ⟨Nat.le_of_ble_eq_true rfl, Nat.le_of_ble_eq_true rfl⟩ (fun H locs T => ?_)
      have lr := L_of (τ := τ) (x1 := xs (nI i + 1).toNatClampNeg) (x2 := xs (nI i + 2).toNatClampNeg) li
      refine lv_icmp_eq (tgt := 448) hx hb dL_law_354 (by decide) (fun _ => ?_) (fun q => absurd lr.1 q)
      exact fin lr _ _ T _ hl
    by_cases z_9 : z = 9
    · skip
      refine lv_tableIn (off := 326) (tgt := 359) hx hb dL_law_33 (by rw [z_9]; decide) (by rw [z_9]; decide) (by rw [z_9]; decide +kernel) (by decide) ?_
      refine lv_aload_n hx hb dL_law_359 rfl (lv_at hl 1 rfl) ?_
      refine lv_aload_n hx hb dL_law_360 rfl (lv_at hl 0 rfl) ?_
      refine lv_iload_n hx hb dL_law_361 rfl (lv_at hl 3 rfl) ?_
      refine lv_iconst (v := 1) hx hb dL_law_362 (by decide) ?_
      refine lv_iadd hx hb dL_law_363 ?_
      refine va_sld hx hb hX hbl hbA T.2.2.2 (hv 1 (by decide) (by decide)) dL_law_364 ?_
      refine lv_aload_n hx hb dL_law_365 rfl (lv_at hl 0 rfl) ?_
      refine lv_iload_n hx hb dL_law_366 rfl (lv_at hl 3 rfl) ?_
      refine lv_iconst (v := 2) hx hb dL_law_367 (by decide) ?_
      refine lv_iadd hx hb dL_law_368 ?_
      refine va_sld hx hb hX hbl hbA T.2.2.2 (hv 2 (by decide) (by decide)) dL_law_369 ?_
      refine hw_2i (As := [.int (xs (nI i + 1).toNatClampNeg), .int (xs (nI i + 2).toNatClampNeg)]) (rest := []) C T (c_H_are li.1) (cwV 2 hts lx_are rfl rfl rfl (by decide +kernel) ⟨Nat.le_of_ble_eq_true rfl, Nat.le_of_ble_eq_true rfl⟩) hw_isH hw_ad rfl hl.1 rfl (Nat.le_of_ble_eq_true rfl) dL_law_370 ⟨Nat.le_of_ble_eq_true rfl, Nat.le_of_ble_eq_true rfl⟩ (fun H locs T => ?_)
      have T := T.swap
      refine lv_aload_n hx hb dL_law_373 rfl (lv_at hl 2 rfl) ?_
      refine lv_aload_n hx hb dL_law_374 rfl (lv_at hl 0 rfl) ?_
      refine lv_iload_n hx hb dL_law_375 rfl (lv_at hl 3 rfl) ?_
      refine lv_iconst (v := 1) hx hb dL_law_376 (by decide) ?_
      refine lv_iadd hx hb dL_law_377 ?_
      refine va_sld hx hb hX hbl hbA T.2.2.2 (hv 1 (by decide) (by decide)) dL_law_378 ?_
      refine lv_aload_n hx hb dL_law_379 rfl (lv_at hl 0 rfl) ?_
      refine lv_iload_n hx hb dL_law_380 rfl (lv_at hl 3 rfl) ?_
      refine lv_iconst (v := 2) hx hb dL_law_381 (by decide) ?_
      refine lv_iadd hx hb dL_law_382 ?_
      refine va_sld hx hb hX hbl hbA T.2.2.2 (hv 2 (by decide) (by decide)) dL_law_383 ?_
      refine hw_2i (As := [.int (xs (nI i + 1).toNatClampNeg), .int (xs (nI i + 2).toNatClampNeg)]) (rest := [.int (sp_are G S (xs (nI i + 1).toNatClampNeg) (xs (nI i + 2).toNatClampNeg))]) C T (c_M_are (hg_up (by decide) li.1)) (cwV 2 hts ly_are rfl rfl rfl (by decide +kernel) ⟨Nat.le_of_ble_eq_true rfl, Nat.le_of_ble_eq_true rfl⟩) md_isO md_ad rfl hl.1 rfl (Nat.le_of_ble_eq_true rfl) dL_law_384 ⟨Nat.le_of_ble_eq_true rfl, Nat.le_of_ble_eq_true rfl⟩ (fun H locs T => ?_)
      have lr := L_are (τ := τ) (x1 := xs (nI i + 1).toNatClampNeg) (x2 := xs (nI i + 2).toNatClampNeg) li
      refine lv_icmp_eq (tgt := 448) hx hb dL_law_387 (by decide) (fun _ => ?_) (fun q => absurd lr.1 q)
      exact fin lr _ _ T _ hl
    by_cases z_10 : z = 10
    · skip
      refine lv_tableIn (off := 359) (tgt := 392) hx hb dL_law_33 (by rw [z_10]; decide) (by rw [z_10]; decide) (by rw [z_10]; decide +kernel) (by decide) ?_
      refine lv_aload_n hx hb dL_law_392 rfl (lv_at hl 1 rfl) ?_
      refine lv_aload_n hx hb dL_law_393 rfl (lv_at hl 0 rfl) ?_
      refine lv_iload_n hx hb dL_law_394 rfl (lv_at hl 3 rfl) ?_
      refine lv_iconst (v := 1) hx hb dL_law_395 (by decide) ?_
      refine lv_iadd hx hb dL_law_396 ?_
      refine va_sld hx hb hX hbl hbA T.2.2.2 (hv 1 (by decide) (by decide)) dL_law_397 ?_
      refine lv_aload_n hx hb dL_law_398 rfl (lv_at hl 0 rfl) ?_
      refine lv_iload_n hx hb dL_law_399 rfl (lv_at hl 3 rfl) ?_
      refine lv_iconst (v := 2) hx hb dL_law_400 (by decide) ?_
      refine lv_iadd hx hb dL_law_401 ?_
      refine va_sld hx hb hX hbl hbA T.2.2.2 (hv 2 (by decide) (by decide)) dL_law_402 ?_
      refine hw_2i (As := [.int (xs (nI i + 1).toNatClampNeg), .int (xs (nI i + 2).toNatClampNeg)]) (rest := []) C T (c_H_open li.1) (cwV 2 hts lx_open rfl rfl rfl (by decide +kernel) ⟨Nat.le_of_ble_eq_true rfl, Nat.le_of_ble_eq_true rfl⟩) hw_isH hw_ad rfl hl.1 rfl (Nat.le_of_ble_eq_true rfl) dL_law_403 ⟨Nat.le_of_ble_eq_true rfl, Nat.le_of_ble_eq_true rfl⟩ (fun H locs T => ?_)
      have T := T.swap
      refine lv_aload_n hx hb dL_law_406 rfl (lv_at hl 2 rfl) ?_
      refine lv_aload_n hx hb dL_law_407 rfl (lv_at hl 0 rfl) ?_
      refine lv_iload_n hx hb dL_law_408 rfl (lv_at hl 3 rfl) ?_
      refine lv_iconst (v := 1) hx hb dL_law_409 (by decide) ?_
      refine lv_iadd hx hb dL_law_410 ?_
      refine va_sld hx hb hX hbl hbA T.2.2.2 (hv 1 (by decide) (by decide)) dL_law_411 ?_
      refine lv_aload_n hx hb dL_law_412 rfl (lv_at hl 0 rfl) ?_
      refine lv_iload_n hx hb dL_law_413 rfl (lv_at hl 3 rfl) ?_
      refine lv_iconst (v := 2) hx hb dL_law_414 (by decide) ?_
      refine lv_iadd hx hb dL_law_415 ?_
      refine va_sld hx hb hX hbl hbA T.2.2.2 (hv 2 (by decide) (by decide)) dL_law_416 ?_
      refine hw_2i (As := [.int (xs (nI i + 1).toNatClampNeg), .int (xs (nI i + 2).toNatClampNeg)]) (rest := [.int (sp_open G S (xs (nI i + 1).toNatClampNeg) (xs (nI i + 2).toNatClampNeg))]) C T (c_M_open (hg_up (by decide) li.1)) (cwV 2 hts ly_open rfl rfl rfl (by decide +kernel) ⟨Nat.le_of_ble_eq_true rfl, Nat.le_of_ble_eq_true rfl⟩) md_isO md_ad rfl hl.1 rfl (Nat.le_of_ble_eq_true rfl) dL_law_417 ⟨Nat.le_of_ble_eq_true rfl, Nat.le_of_ble_eq_true rfl⟩ (fun H locs T => ?_)
      have lr := L_opn (τ := τ) (x1 := xs (nI i + 1).toNatClampNeg) (x2 := xs (nI i + 2).toNatClampNeg) li
      refine lv_icmp_eq (tgt := 448) hx hb dL_law_420 (by decide) (fun _ => ?_) (fun q => absurd lr.1 q)
      exact fin lr _ _ T _ hl
    by_cases z_11 : z = 11
    · skip
      refine lv_tableIn (off := 392) (tgt := 425) hx hb dL_law_33 (by rw [z_11]; decide) (by rw [z_11]; decide) (by rw [z_11]; decide +kernel) (by decide) ?_
      refine lv_aload_n hx hb dL_law_425 rfl (lv_at hl 1 rfl) ?_
      refine lv_aload_n hx hb dL_law_426 rfl (lv_at hl 0 rfl) ?_
      refine lv_iload_n hx hb dL_law_427 rfl (lv_at hl 3 rfl) ?_
      refine lv_iconst (v := 1) hx hb dL_law_428 (by decide) ?_
      refine lv_iadd hx hb dL_law_429 ?_
      refine va_sld hx hb hX hbl hbA T.2.2.2 (hv 1 (by decide) (by decide)) dL_law_430 ?_
      refine hw_2i (As := [.int (xs (nI i + 1).toNatClampNeg)]) (rest := []) C T (c_H_look) (cwV 1 hts lx_look rfl rfl rfl (by decide +kernel) ⟨Nat.le_of_ble_eq_true rfl, Nat.le_of_ble_eq_true rfl⟩) hw_isH hw_ad rfl hl.1 rfl (Nat.le_of_ble_eq_true rfl) dL_law_431 ⟨Nat.le_of_ble_eq_true rfl, Nat.le_of_ble_eq_true rfl⟩ (fun H locs T => ?_)
      have T := T.swap
      refine lv_aload_n hx hb dL_law_434 rfl (lv_at hl 2 rfl) ?_
      refine lv_aload_n hx hb dL_law_435 rfl (lv_at hl 0 rfl) ?_
      refine lv_iload_n hx hb dL_law_436 rfl (lv_at hl 3 rfl) ?_
      refine lv_iconst (v := 1) hx hb dL_law_437 (by decide) ?_
      refine lv_iadd hx hb dL_law_438 ?_
      refine va_sld hx hb hX hbl hbA T.2.2.2 (hv 1 (by decide) (by decide)) dL_law_439 ?_
      refine hw_2i (As := [.int (xs (nI i + 1).toNatClampNeg)]) (rest := [.int (sp_look G (xs (nI i + 1).toNatClampNeg))]) C T (c_M_look (hg_up (by decide) li.1)) (cwV 1 hts ly_look rfl rfl rfl (by decide +kernel) ⟨Nat.le_of_ble_eq_true rfl, Nat.le_of_ble_eq_true rfl⟩) md_isO md_ad rfl hl.1 rfl (Nat.le_of_ble_eq_true rfl) dL_law_440 ⟨Nat.le_of_ble_eq_true rfl, Nat.le_of_ble_eq_true rfl⟩ (fun H locs T => ?_)
      have lr := L_look (τ := τ) (x1 := xs (nI i + 1).toNatClampNeg) li
      refine lv_icmp_eq (tgt := 448) hx hb dL_law_443 (by decide) (fun _ => ?_) (fun q => absurd lr.1 q)
      exact fin lr _ _ T _ hl
    refine lv_tableOut (tgt := 448) hx hb dL_law_33 (by (have y0 := lv_neT (a := 0) z_0 (by decide); have y1 := lv_neT (a := 1) z_1 (by decide); have y2 := lv_neT (a := 2) z_2 (by decide); have y3 := lv_neT (a := 3) z_3 (by decide); have y4 := lv_neT (a := 4) z_4 (by decide); have y5 := lv_neT (a := 5) z_5 (by decide); have y6 := lv_neT (a := 6) z_6 (by decide); have y7 := lv_neT (a := 7) z_7 (by decide); have y8 := lv_neT (a := 8) z_8 (by decide); have y9 := lv_neT (a := 9) z_9 (by decide); have y10 := lv_neT (a := 10) z_10 (by decide); have y11 := lv_neT (a := 11) z_11 (by decide); omega)) (by decide) ?_
    exact tail τ G S B nn li H locs T ls hl
