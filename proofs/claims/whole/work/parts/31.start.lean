/-! THE LAW'S START: a new hall, a new reference, and the loop. -/
set_option maxHeartbeats 4000000 in
set_option maxRecDepth 100000 in
/-- behind the reference's constructor: the loop -/
theorem law_mid {p : Program} {l : Launch} {e : Env} {s : State} {m : MethodId} {below : List Frame} {meth : Method} {c : Code} {b L : Nat} {xs : Nat → Int32} (hL : L ≤ 3072) (C0 : lw_At p s m meth c b L xs) {D : va_G} {h a : Nat} {ad : Nat → Nat} {cA : ClassId} (hK : va_K D vwCl [(cA, .object RX0)] s) {H : Heap} {locs : List Loc} (T : hw_T D (fun q : Nat => s.heap.size ≤ q) s.heap (hw_W h a ad cA hc_G hc_S) H locs) {ls : Array Slot} (hl : lv_has ls 4 [(1, .ref h), (0, .ref b)]) : W p l e room_1 s m #[Value.ref b] below meth c H locs 34 455 (lw_Z below #[Value.ref b] s) (F0 m 8 ls []) := by
  obtain ⟨hx, hb, hr, hml, hown, hts, hX, hbl, hlocks, hgv⟩ := id C0
  have hown : s.vm.findClass RL = some m.cls := hown
  have hA : ∀ q : Nat, s.heap.size ≤ q → (fun q : Nat => s.heap.size ≤ q) q := fun _ h => h
  refine va_new (ci := 2) (fs := [.int 0, .int 0, .null, .null, .null, .null, .null, .null, .int 0, .null, .null, .null, .null, .null, .null, .null, .int 0, .int 0, .int 0]) (C := RX3) (T := TX3) (N := 19) hx hb hts inX3L tyX3 tyX3_ok hown (hts (.classLink RL 10 RX3) (by decide +kernel)) (hts (.instantiable RX3 19) (by decide +kernel)) (hts (.initialized RX3) (by decide +kernel)) hK T.1 T.2.1 T.2.2 hA rfl (fun j hj => by rcases (show j = 0 ∨ j = 1 ∨ j = 2 ∨ j = 3 ∨ j = 4 ∨ j = 5 ∨ j = 6 ∨ j = 7 ∨ j = 8 ∨ j = 9 ∨ j = 10 ∨ j = 11 ∨ j = 12 ∨ j = 13 ∨ j = 14 ∨ j = 15 ∨ j = 16 ∨ j = 17 ∨ j = 18 by omega) with rfl | rfl | rfl | rfl | rfl | rfl | rfl | rfl | rfl | rfl | rfl | rfl | rfl | rfl | rfl | rfl | rfl | rfl | rfl <;> rfl) (Nat.le_of_ble_eq_true rfl) (Nat.le_of_ble_eq_true rfl) dL_law_8 (fun o H hP hD hS => ?_)
  refine W.widen (k := 35) (n := 474) (Nat.le_of_ble_eq_true rfl) (Nat.le_of_ble_eq_true rfl) ?_
  have hP1 : va_P D vwCl (hw_W h a ad cA hc_G hc_S) H := fun k q hq => hP k q (by rw [List.getElem?_append_left (List.getElem?_eq_some_iff.mp hq).1]; exact hq)
  have hP2 : va_P D vwCl (mc_w0 o) H := fun k q hq => hP ((hw_W h a ad cA hc_G hc_S).length + k) q (by rw [List.getElem?_append_right (Nat.le_add_right _ _), Nat.add_sub_cancel_left]; exact hq)
  have T2 : hw_T2 D (fun q : Nat => s.heap.size ≤ q) s.heap (mc_w0 o) (hw_W h a ad cA hc_G hc_S) H locs := ⟨hP2, hP1, hw_Dswap hD, hS⟩
  have hK0 : va_K D vwCl [] s := hK.sub (tys' := []) [] rfl
  have C : hw_C p s m #[Value.ref b] meth c cL_law ret 4 lw_tbl RL D [] (fun q : Nat => s.heap.size ≤ q) := ⟨⟨hx, hb, hml, hown, hts⟩, hr, hlocks, hK0, hw_N.of hts, fun _ h => h⟩
  refine lv_dup hx hb dL_law_11 rfl ?_
  refine va_callv (va_runI (As := []) (rest := [.ref o]) C.1 (c_M_init l D o H.size) (cwI 0 hts ly_init rfl rfl rfl (hts (.initialized RX3) (by decide +kernel)) (hts (.methodLink RL 12 yX3_init) (by decide +kernel)) (hts (.instanceMethod yX3_init) (by decide +kernel)) rfl (by decide +kernel) ⟨Nat.le_of_ble_eq_true rfl, Nat.le_of_ble_eq_true rfl⟩) ⟨hw_blind, fun U hU hW => ⟨rfl, hw_pre C T2.fst U hU hW⟩⟩ rfl rfl hl.1 rfl (lv_room (Nat.le_of_ble_eq_true rfl)) dL_law_12 ⟨Nat.le_of_ble_eq_true rfl, Nat.le_of_ble_eq_true rfl⟩) hS (fun q _ h => hw_free C T2.fst q h) (hw_free C T2.fst) (fun u t H1 locs1 ht hvm hw hB hz1 hk1 hS1 => ?_)
  obtain ⟨am, cm⟩ := u
  obtain ⟨hB1, hB2, hB3⟩ := hB
  rw [ht] at hB1
  have hK1 : va_K D vwCl (md_tys cm) s := va_K.moved hvm.symm hB3
  have hKK : va_K D vwCl ((cA, .object RX0) :: md_tys cm) s := hK.app hK1
  have hk : ∀ (k : Nat) (q : Nat × va_E), (hw_W h a ad cA hc_G hc_S)[k]? = some q → q.1 < H.size ∧ ¬ va_A (mc_w0 o) H.size q.1 := fun k q hq => by
    refine ⟨(hP1 k q hq).lt, fun hh => ?_⟩
    rcases hh with ⟨j, e9, hh⟩ | hh
    · exact hw_Dx T2.2.2.1 hh hq rfl
    · exact absurd (hP1 k q hq).lt (Nat.not_lt.mpr hh)
  have T3 : hw_T2 D (fun q : Nat => s.heap.size ≤ q) s.heap (hw_W h a ad cA hc_G hc_S) (md_W o am cm hc_G hc_S mc_B) H1 locs1 := ⟨hP1.kept (fun k q hq => hk1 q.1 (hk k q hq).1 (hk k q hq).2), hB1, va_D.app (hw_Dr T2.2.2.1) (hB2.weaken (fun k q _ hh => hw_free C T2.fst q.1 hh)) (fun i j x y hx9 hy9 e9 => (hk i x hx9).2 (by rw [e9]; exact hB2.2 j y hy9)), hS1⟩
  have e0 : md_W o am cm hc_G hc_S mc_B = md_W o am cm (upd hc_G 3 0) hc_S mc_B := by rw [upd_id (show hc_G 3 = 0 from rfl)]
  rw [e0] at T3
  refine W.widen (k := 48) (n := 1882) (Nat.le_of_ble_eq_true rfl) (Nat.le_of_ble_eq_true rfl) ?_
  refine lv_astore_n (lv' := [(2, .ref o), (1, .ref h), (0, .ref b)]) hx hb dL_law_15 rfl hl (by decide) rfl (fun ls hl => ?_)
  refine lv_iconst (v := 0) hx hb dL_law_16 (by decide) ?_
  refine lv_istore_n (lv' := [(3, .int 0), (2, .ref o), (1, .ref h), (0, .ref b)]) hx hb dL_law_17 rfl hl (by decide) rfl (fun ls hl => ?_)
  have li : LI hc_G hc_S mc_B 0 := ⟨⟨by decide, rfl⟩, ⟨fun i hi => absurd hi (Nat.not_lt_zero _), fun i => (show rg 0 by unfold rg; decide), rfl⟩, ⟨fun i j hi _ => absurd hi (Nat.not_lt_zero _), fun _ _ _ _ _ => rfl⟩⟩
  exact law_loop hL C0 hKK (L + 1) 0 0 hc_G hc_S mc_B 0 (by omega) (by omega) li _ _ T3 _ (lv_sub hl [3, 2, 1, 0] rfl)
set_option maxHeartbeats 4000000 in
set_option maxRecDepth 100000 in
/-- THE LAW, from its entry -/
theorem whole_start {p : Program} {e : Env} {s : State} {m : MethodId} {below : List Frame} {meth : Method} {c : Code} (l : Launch) {b L : Nat} {xs : Nat → Int32} (hL : L ≤ 3072) (C0 : lw_At p s m meth c b L xs) : W p l e room_1 s m #[Value.ref b] below meth c s.heap [] 0 0 (lw_Z below #[Value.ref b] s) (entryFrame m ([Value.ref b] : List Value).toArray 4) := by
  obtain ⟨hx, hb, hr, hml, hown, hts, hX, hbl, hlocks, hgv⟩ := id C0
  have hown : s.vm.findClass RL = some m.cls := hown
  have hA : ∀ q : Nat, s.heap.size ≤ q → (fun q : Nat => s.heap.size ≤ q) q := fun _ h => h
  obtain ⟨c0, iS0, hKn0⟩ := u_known (C := RX0) (T := TX0) (N := 13) (n := 13) hts inX0 (hts (.instantiable RX0 13) (by decide +kernel))
  obtain ⟨c1, iS1, hKn1⟩ := u_known (C := RX1) (T := TX1) (N := 7) (n := 7) hts inX1 (hts (.instantiable RX1 7) (by decide +kernel))
  obtain ⟨c2, iS2, hKn2⟩ := u_known (C := RX3) (T := TX3) (N := 19) (n := 19) hts inX3L (hts (.instantiable RX3 19) (by decide +kernel))
  obtain ⟨dC, dI, hKc⟩ : ∃ (dC : Nat → ClassId) (dI : Nat → Nat → Nat), ∀ (k : Nat) (q : vw_C), vwCl[k]? = some q → u_Kn s q.1 q.2.1 q.2.2 (dC k) (dI k) := by
    refine ⟨fun k => if k = 0 then c0 else if k = 1 then c1 else c2, fun k => if k = 0 then iS0 else if k = 1 then iS1 else iS2, ?_⟩
    intro k q hq
    match k, hq with
    | 0, hq => cases hq; exact hKn0
    | 1, hq => cases hq; exact hKn1
    | 2, hq => cases hq; exact hKn2
    | k + 3, hq => simp [vwCl] at hq
  have hS : va_S (fun q : Nat => s.heap.size ≤ q) s.heap s.heap [] := va_S.rf
  have hK : va_K (dC, dI) vwCl [] s := ⟨hKc, fun k q h => by simp at h⟩
  have hP : va_P (dC, dI) vwCl [] s.heap := fun k q h => by simp at h
  have hD : va_D (fun q : Nat => s.heap.size ≤ q) [] := ⟨fun i j p q h => by simp at h, fun k q h => by simp at h⟩
  have hl := lv_entry ([.ref b]) (n := 4) (Nat.le_of_ble_eq_true rfl)
  rw [lg_entry_eq]
  generalize (lg_sl ([.ref b]) ++ List.replicate (4 - (lg_sl ([.ref b])).length) Slot.unset).toArray = ls at hl ⊢
  have hl : lv_has ls 4 [(0, .ref b)] := hl
  refine va_new (ci := 1) (fs := [.null, .int 0, .int 0, .int 0, .int 0, .int 0, .int 0]) (C := RX1) (T := TX1) (N := 7) hx hb hts inX1 tyX1 tyX1_ok hown (hts (.classLink RL 7 RX1) (by decide +kernel)) (hts (.instantiable RX1 7) (by decide +kernel)) (hts (.initialized RX1) (by decide +kernel)) hK hP hD hS hA rfl (fun j hj => by rcases (show j = 0 ∨ j = 1 ∨ j = 2 ∨ j = 3 ∨ j = 4 ∨ j = 5 ∨ j = 6 by omega) with rfl | rfl | rfl | rfl | rfl | rfl | rfl <;> rfl) (Nat.le_of_ble_eq_true rfl) (Nat.le_of_ble_eq_true rfl) dL_law_0 (fun h H hP hD hS => ?_)
  have T : hw_T (dC, dI) (fun q : Nat => s.heap.size ≤ q) s.heap (hc_w0 h) H [] := ⟨hP, hD, hS⟩
  have C : hw_C p s m #[Value.ref b] meth c cL_law ret 4 lw_tbl RL (dC, dI) [] (fun q : Nat => s.heap.size ≤ q) := ⟨⟨hx, hb, hml, hown, hts⟩, hr, hlocks, hK, hw_N.of hts, fun _ h => h⟩
  have hAO : va_AO RX0 s := va_AO.of (hts (.arrayOver (.object RX0)) (by decide +kernel))
  refine W.widen (k := 1) (n := 7) (Nat.le_of_ble_eq_true rfl) (Nat.le_of_ble_eq_true rfl) ?_
  refine lv_dup hx hb dL_law_3 rfl ?_
  refine va_callv (va_runI (As := []) (rest := [.ref h]) C.1 (c_H_init l (dC, dI) h H.size) (cwI 0 hts lx_init rfl rfl rfl (hts (.initialized RX1) (by decide +kernel)) (hts (.methodLink RL 9 yX1_init) (by decide +kernel)) (hts (.instanceMethod yX1_init) (by decide +kernel)) rfl (by decide +kernel) ⟨Nat.le_of_ble_eq_true rfl, Nat.le_of_ble_eq_true rfl⟩) ⟨fun a U g mk q => by
      obtain ⟨q0, ⟨q1, qP, qK, qN, qD⟩, qA⟩ := q
      exact ⟨q0, ⟨q1, qP, va_K.moved (u := U) (U := U.calling g mk a) (Vm.Alike.refl U.vm) qK, hw_N.same hw_NL_ok (u := U) (U := U.calling g mk a) rfl qN, qD⟩, va_AO.moved (u := U) (U := U.calling g mk a) (Vm.Alike.refl U.vm) qA⟩, fun U hU hW => ⟨rfl, hw_pre C T U hU hW, va_AO.moved hW.alike hAO⟩⟩ rfl rfl hl.1 rfl (lv_room (Nat.le_of_ble_eq_true rfl)) dL_law_4 ⟨Nat.le_of_ble_eq_true rfl, Nat.le_of_ble_eq_true rfl⟩) hS (fun q _ h => hw_free C T q h) (hw_free C T) (fun u t H1 locs1 ht hvm hw hB hz1 hk1 hS1 => ?_)
  obtain ⟨a, ad, cA⟩ := u
  obtain ⟨hB1, hB2, hB3⟩ := hB
  rw [ht] at hB1
  have T1 : hw_T (dC, dI) (fun q : Nat => s.heap.size ≤ q) s.heap (hw_W h a ad cA hc_G hc_S) H1 locs1 := ⟨hB1, hB2.weaken (fun k q _ hh => hw_free C T q.1 hh), hS1⟩
  refine W.widen (k := 34) (n := 455) (Nat.le_of_ble_eq_true rfl) (Nat.le_of_ble_eq_true rfl) ?_
  refine lv_astore_n (lv' := [(1, .ref h), (0, .ref b)]) hx hb dL_law_7 rfl hl (by decide) rfl (fun ls hl => ?_)
  exact law_mid hL C0 (va_K.moved hvm.symm hB3) T1 hl
