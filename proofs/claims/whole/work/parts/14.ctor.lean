/-! THE HALL's constructors: 32 new sectors, all zero; nobody is anywhere. -/
section CTOR
variable {p : Program} {l : Launch} {e : Env} {R : Room} {s : State} {m : MethodId} {args : Array Value} {below : List Frame} {meth : Method} {c : Code} {H : Heap} {locs : List Loc} {cells slots : Nat} {Q : State → Prop}
variable {cc : ByteArray} {ret : Option FieldType} {nL : Nat} {Ts : List Cond} {own : String} {D : va_G} {tys : List (ClassId × FieldType)} {A : Nat → Prop} {w w' : va_W}
variable {y : MethodName} {bytes : ByteArray} {maxL n index : Nat} {ws : List Cond} {rm : Room} {host : String} {b : Addr} {As rest st : List Value} {pc : Nat} {ls : Array Slot}
theorem hw_NI (C : hw_C p s m args meth c cc ret nL Ts own D tys A) (T : hw_T D A s.heap w H locs) (hM : MV l D tys y ws rm (.ref b :: As) w w') (cw : va_CN R s args own index y host bytes maxL none ws rm 0 0 n ∧ y.name = "<init>" ∧ (Cond.instanceMethod y).before args s = true) (ha : w'.map Prod.fst = w.map Prod.fst)
    (hn : As.length = n) (hls : ls.size = nL) (hst : st = As.reverse ++ .ref b :: rest) (hroom : (rest.map fun v => v.category).sum ≤ 8) (hdg : decode cc pc = .ok (.invokespecial index, 3)) (hR : cells + 0 ≤ R.cells ∧ slots + 0 ≤ R.slots)
    (kk : ∀ (H1 : Heap) (locs1 : List Loc), hw_T D A s.heap w' H1 locs1 → W p l e R s m args below meth c H1 locs1 cells slots Q (F0 m (pc + 3) ls rest)) : W p l e R s m args below meth c H locs cells slots Q (F0 m pc ls st) :=
  hw_backv C T ha (va_runIN C.1 (hM H.size) cw ⟨hw_blind, fun U hU hW => ⟨rfl, hw_pre C T U hU hW⟩⟩ rfl hn hls hst (lv_room hroom) hdg hR) kk
end CTOR
set_option maxHeartbeats 4000000 in
set_option maxRecDepth 100000 in
/-- Sector(): nothing changes -/
theorem c_S_init {l : Launch} {D : va_G} {tys : List (ClassId × FieldType)} {w : va_W} {b : Nat} : MV l D tys yX0_init wsX0_init { frames := 1, cells := 0, slots := 0, locals := 12 } [.ref b] w w := by
  refine MV.start (cc := cX0_init) (maxL := 1) (by decide) rfl (Nat.le_of_ble_eq_true rfl) (fun p e s m args below meth c A ls C T hl => ?_)
  have hx := C.1.1
  have hb := C.1.2.1
  have hml := C.1.2.2.1
  have hown : s.vm.findClass RX0 = some m.cls := C.1.2.2.2.1
  have hts := C.1.2.2.2.2
  have hl : lv_has ls 1 [(0, .ref b)] := hl
  refine lv_aload_n hx hb dX0_init_0 rfl (lv_at hl 0 rfl) ?_
  refine W.objInit hx hb hown (hts (.methodLink RX0 3 objectInit) (by decide +kernel)) (hts (.instanceMethod objectInit) (by decide +kernel)) (hts (.code objectInit ⟨#[0xb1]⟩ 1 none) (by decide +kernel)) rfl (by rw [hml]; exact hl.1) rfl dX0_init_1 (Nat.le_of_ble_eq_true rfl) (Nat.le_of_ble_eq_true rfl) ?_
  refine W.eq (g2 := F0 m 4 ls []) rfl ?_
  exact hw_vret C T rfl dX0_init_4
def hc_f (ad : Nat → Nat) (i : Nat) : Nat → Option Nat := fun j => if j < i then some (ad j) else none
def hc_W (h a : Nat) (ad : Nat → Nat) (cA : ClassId) (i : Nat) : va_W := (h, .inr (1, hh_fl a (fun _ => 0))) :: (a, .inl (cA, 32, .inr (.inr (.inr (.inr (hc_f ad i)))))) :: (List.range i).map (fun j => (ad j, .inr (0, hs_fl (fun _ => 0))))
theorem hc_f_up (ad : Nat → Nat) (i q : Nat) : va_up (hc_f ad i) i (some q) = hc_f (va_up ad i q) (i + 1) := by
  funext j
  by_cases h1 : j = i
  · subst h1
    simp [va_up, hc_f]
  · by_cases h2 : j < i
    · have h3 : j < i + 1 := by omega
      simp [va_up, hc_f, h1, h2, h3]
    · have h3 : ¬ j < i + 1 := by omega
      simp [va_up, hc_f, h1, h2, h3]
theorem hc_push (h a : Nat) (ad : Nat → Nat) (cA : ClassId) (i q : Nat) : (hc_W h a ad cA i ++ ([(q, .inr (0, hs_fl (fun _ => 0)))] : va_W)).set 1 (a, .inl (cA, 32, .inr (.inr (.inr (.inr (va_up (hc_f ad i) i (some q))))))) = hc_W h a (va_up ad i q) cA (i + 1) := by
  rw [hc_f_up]
  show _ :: _ :: ((List.range i).map (fun j => (ad j, (.inr (0, hs_fl (fun _ => 0)) : va_E))) ++ [(q, .inr (0, hs_fl (fun _ => 0)))]) = _
  unfold hc_W
  rw [List.range_succ, List.map_append]
  have e : (List.range i).map (fun j => (ad j, (.inr (0, hs_fl (fun _ => 0)) : va_E))) = (List.range i).map (fun j => (va_up ad i q j, (.inr (0, hs_fl (fun _ => 0)) : va_E))) := by
    apply List.map_congr_left
    intro j hj
    have hj2 : j < i := List.mem_range.mp hj
    have hj3 : ¬ j = i := by omega
    simp [va_up, hj3]
  rw [e]
  simp [va_up]
theorem hc_end {D : va_G} {A : Nat → Prop} {H0 H : Heap} {locs : List Loc} {h a : Nat} {ad : Nat → Nat} {cA : ClassId} (T : hw_T D A H0 (hc_W h a ad cA 32) H locs) : hw_T D A H0 (hw_W h a ad cA (fun _ => 0) (fun _ _ => 0)) H locs := by
  refine ⟨fun k q hk => ?_, hw_D T.2.1 ?_, T.2.2⟩
  · match k, hk with
    | 0, hk => exact T.1 0 q hk
    | 1, hk =>
      have h1 := T.1 1 _ (show (hc_W h a ad cA 32)[1]? = some (a, .inl (cA, 32, .inr (.inr (.inr (.inr (hc_f ad 32)))))) from rfl)
      have h2 : q = (a, .inl (cA, 32, .inr (.inr (.inr (.inr (fun j => some (ad j))))))) := (Option.some.inj hk).symm
      subst h2
      show H[a]? = some (vp_cell _ _)
      have h3 : H[a]? = some (vp_cell cA (32, .inr (.inr (.inr (.inr (hc_f ad 32)))))) := h1
      rw [h3, vp_cell_q, vp_cell_q]
      congr 1
    | k + 2, hk => exact T.1 (k + 2) q hk
  · simp [hw_W, hs_pl, hc_W, Function.comp_def]
def hc_w0 (h : Nat) : va_W := [(h, .inr (1, [.null, .int 0, .int 0, .int 0, .int 0, .int 0, .int 0]))]
def hc_G : Nat → Int32 := upd (fun _ => 0) 5 (-1)
def hc_S : Nat → Nat → Int32 := fun _ _ => 0
abbrev hc_Q (D : va_G) (h : Nat) (A : Nat → Prop) : Array Value → State → Outcome → State → Prop := va_Qv (fun (_ : Nat × (Nat → Nat) × ClassId) => True) (fun u t => va_P D vwCl (hw_W h u.1 u.2.1 u.2.2 hc_G hc_S) t.heap ∧ va_D A (hw_W h u.1 u.2.1 u.2.2 hc_G hc_S) ∧ va_K D vwCl [(u.2.2, .object RX0)] t) A
set_option maxHeartbeats 4000000 in
set_option maxRecDepth 100000 in
theorem lp_init {l : Launch} {D : va_G} {h a : Nat} {cA : ClassId} {p : Program} {e : Env} {s : State} {m : MethodId} {args : Array Value} {below : List Frame} {meth : Method} {c : Code} {A : Nat → Prop} (C : hw_C p s m args meth c cX1_init none 2 wsX1_init yX1_init.cls D [(cA, .object RX0)] A) :
    ∀ (k i : Nat) (ad : Nat → Nat), i + k = 32 → ∀ (ls : Array Slot) (H : Heap) (locs : List Loc), hw_T D A s.heap (hc_W h a ad cA i) H locs → lv_has ls 2 [(0, .ref h), (1, .int (nI i))] → W p l e { frames := 2, cells := 33, slots := 448, locals := 40 } s m args below meth c H locs (1 + i) (32 + 13 * i) (MQ below (hc_Q D h A) args s 33 448 A) (F0 m 15 ls []) := by
  have hx := C.1.1
  have hb := C.1.2.1
  have hml := C.1.2.2.1
  have hown : s.vm.findClass RX1 = some m.cls := C.1.2.2.2.1
  have hts := C.1.2.2.2.2
  have hr := C.2.1
  have hlocks := C.2.2.1
  have hK := C.2.2.2.1
  have hN := C.2.2.2.2.1
  have hA := C.2.2.2.2.2
  have hinH : ∀ w ∈ wsX10, w ∈ wsX1_init := by decide +kernel
  have hinS : ∀ w ∈ wsX00, w ∈ wsX1_init := by decide +kernel
  intro k
  induction k with
  | zero =>
    intro i ad hik ls H locs T hl
    have hi : i = 32 := by omega
    subst hi
    refine lv_iload_n hx hb dX1_init_15 rfl (lv_at hl 1 rfl) ?_
    refine lv_bipush (v := 32) hx hb dX1_init_16 (by decide) ?_
    refine lv_icmp_ge (tgt := 40) hx hb dX1_init_18 (by decide) (fun c_18 => ?_) (fun c_18 => absurd (show (32 : Int32) ≤ nI 32 by decide) c_18)
    have T := hc_end T
    refine lv_aload_n hx hb dX1_init_40 rfl (lv_at hl 0 rfl) ?_
    refine lv_iconst (v := (-1)) hx hb dX1_init_41 (by decide) ?_
    refine va_put (D := D) (ci := 1) (v := .int (-1)) (ty := .int) (C := RX1) (T := TX1) (N := 7) hx hb hts hinH tyX1 tyX1_ok nmX1 hown hK T.1 T.2.1 T.2.2 0 rfl rfl 6 (by decide) (hts (.fieldLink RX1 16 "MoverHall" "guestSector" "I") (by decide +kernel)) (fun _ h9 => h9) rfl (by decide +kernel) rfl rfl (Nat.le_of_ble_eq_true rfl) dX1_init_42 (fun H locs hP hD hS => ?_)
    have T := hw_setH (k := 5) (v := (-1)) rfl ⟨hP, hD, hS⟩
    exact W.vret hx hb hr (fun t ht hW => ⟨⟨(a, ad, cA), rfl, trivial, by rw [ht]; exact T.1, T.2.1, va_K.moved hW.alike hK⟩, T.2.2.F ht⟩) T.2.2.2.2 dX1_init_45 hlocks
  | succ k ih =>
    intro i ad hik ls H locs T hl
    have hi : i < 32 := by omega
    refine lv_iload_n hx hb dX1_init_15 rfl (lv_at hl 1 rfl) ?_
    refine lv_bipush (v := 32) hx hb dX1_init_16 (by decide) ?_
    refine lv_icmp_ge (tgt := 40) hx hb dX1_init_18 (by decide) (fun c_18 => absurd c_18 (show ¬ nI 32 ≤ nI i from nI_ge hi (by decide))) (fun c_18 => ?_)
    refine lv_aload_n hx hb dX1_init_21 rfl (lv_at hl 0 rfl) ?_
    refine va_get (D := D) (ci := 1) (v := .ref a) (C := RX1) (T := TX1) (N := 7) hx hb hts hinH hown hK T.1 0 rfl rfl 0 (by decide) (hts (.fieldLink RX1 11 "MoverHall" "sectors" "[LMoverHall$Sector;") (by decide +kernel)) (fun _ h9 => h9) rfl dX1_init_22 ?_
    refine lv_iload_n hx hb dX1_init_25 rfl (lv_at hl 1 rfl) ?_
    refine va_new (ci := 0) (fs := hs_fl (fun _ => 0)) (C := RX0) (T := TX0) (N := 13) hx hb hts hinS tyX0 tyX0_ok hown (hts (.classLink RX1 9 RX0) (by decide +kernel)) (hts (.instantiable RX0 13) (by decide +kernel)) (hts (.initialized RX0) (by decide +kernel)) hK T.1 T.2.1 T.2.2 hA rfl (fun j hj => by rcases (show j = 0 ∨ j = 1 ∨ j = 2 ∨ j = 3 ∨ j = 4 ∨ j = 5 ∨ j = 6 ∨ j = 7 ∨ j = 8 ∨ j = 9 ∨ j = 10 ∨ j = 11 ∨ j = 12 by omega) with rfl | rfl | rfl | rfl | rfl | rfl | rfl | rfl | rfl | rfl | rfl | rfl | rfl <;> rfl) (show 1 + i + 1 ≤ 33 by omega) (show 32 + 13 * i + 13 ≤ 448 by omega) dX1_init_26 (fun q H hP hD hS => ?_)
    have T : hw_T D A s.heap (hc_W h a ad cA i ++ [(q, .inr (0, hs_fl (fun _ => 0)))]) H locs := ⟨hP, hD, hS⟩
    refine W.widen (k := 1 + (i + 1)) (n := 32 + 13 * (i + 1)) (by omega) (by omega) ?_
    refine lv_dup hx hb dX1_init_29 rfl ?_
    refine hw_NI (As := []) (rest := [.ref q, .int (nI i), .ref a]) C T c_S_init ⟨va_cnB 0 hts gX1_init_X0_init_n15 rfl rfl rfl (hN (.methodLinkNest RX1 15 yX0_init "MoverHall") (by decide +kernel)) (hts (.initialized RX0) (by decide +kernel)) (by decide +kernel) ⟨Nat.le_of_ble_eq_true rfl, Nat.le_of_ble_eq_true rfl⟩, rfl, hts (.instanceMethod yX0_init) (by decide +kernel)⟩ rfl rfl hl.1 rfl (Nat.le_of_ble_eq_true rfl) dX1_init_30 ⟨show 1 + (i + 1) + 0 ≤ 33 by omega, show 32 + 13 * (i + 1) + 0 ≤ 448 by omega⟩ (fun H locs T => ?_)
    have hq : (hc_W h a ad cA i ++ [(q, .inr (0, hs_fl (fun _ => 0)))])[i + 2]? = some (q, .inr (0, hs_fl (fun _ => 0))) := by
      rw [List.getElem?_append_right (by simp [hc_W])]
      simp [hc_W]
    refine va_astq hx hb hK T.1 T.2.1 T.2.2 1 0 (i + 2) 0 (r := (RX0, TX0, 13)) (f := hc_f ad i) rfl rfl hq rfl (vp_in_nI hi (by decide)) dX1_init_33 (fun H locs hP hD hS => ?_)
    rw [nI_clamp (show i < 2 ^ 31 by omega), hc_push] at hP hD
    refine lv_iinc (v := nI (i + 1)) (lv' := [(1, .int (nI (i + 1))), (0, .ref h)]) hx hb dX1_init_34 hl (k := 1) rfl (nI_1 i) (by decide) rfl (fun ls hl => ?_)
    refine lv_goto (tgt := 15) hx hb dX1_init_37 (by decide) ?_
    exact ih (i + 1) (va_up ad i q) (by omega) _ _ _ ⟨hP, hD, hS⟩ (lv_sub hl [1, 0] rfl)
set_option maxHeartbeats 4000000 in
set_option maxRecDepth 100000 in
/-- MoverHall(): no sectors -/
theorem c_H_init (l : Launch) (D : va_G) (h sz : Nat) : Met l yX1_init wsX1_init { frames := 2, cells := 33, slots := 448, locals := 40 } (va_Pc [.ref h] (fun U => hw_B D [] (hc_w0 h) sz U ∧ va_AO RX0 U)) (hc_Q D h (va_A (hc_w0 h) sz)) 33 448 (va_A (hc_w0 h) sz) := by
  refine Met.ofW (cc := cX1_init) (maxL := 2) (ret := none) (by decide) rfl ?_
  intro p e s m args below meth c s₁ B hml hv
  obtain ⟨rfl, ⟨hsz, hP, hK, hN, hD0⟩, hAO⟩ := hv
  have hx := B.exec
  have hb := B.bytes
  have hts := atoms_spec (ws := wsX1_init) B.pre
  have hown : s.vm.findClass RX1 = some m.cls := findClass_of_methodNamed B.named
  have hin : meth.name = "<init>" := (name_of_methodNamed B.named B.method).1
  have hinH : ∀ w ∈ wsX10, w ∈ wsX1_init := by decide +kernel
  subst hsz
  have hD := hD0.self (sz := s.heap.size)
  generalize hAe : va_A (hc_w0 h) s.heap.size = A at hD ⊢
  have hA : ∀ q : Nat, s.heap.size ≤ q → A q := fun q h => by rw [← hAe]; exact Or.inr h
  have hS : va_S A s.heap s.heap [] := va_S.rf
  have hl := lv_entry ([.ref h]) (n := 2) (Nat.le_of_ble_eq_true rfl)
  rw [lg_entry_eq]
  generalize (lg_sl ([.ref h]) ++ List.replicate (2 - (lg_sl ([.ref h])).length) Slot.unset).toArray = ls at hl ⊢
  have hl : lv_has ls 2 [(0, .ref h)] := hl
  refine lv_aload_n hx hb dX1_init_0 rfl (lv_at hl 0 rfl) ?_
  refine W.objInit hx hb hown (hts (.methodLink RX1 1 objectInit) (by decide +kernel)) (hts (.instanceMethod objectInit) (by decide +kernel)) (hts (.code objectInit ⟨#[0xb1]⟩ 1 none) (by decide +kernel)) rfl (by rw [hml]; exact hl.1) rfl dX1_init_1 (Nat.le_of_ble_eq_true rfl) (Nat.le_of_ble_eq_true rfl) ?_
  refine W.eq (g2 := F0 m 4 ls []) rfl ?_
  refine lv_aload_n hx hb dX1_init_4 rfl (lv_at hl 0 rfl) ?_
  refine lv_bipush (v := 32) hx hb dX1_init_5 (by decide) ?_
  refine va_newq (C := RX0) hx hb hown (hts (.classLink RX1 9 RX0) (by decide +kernel)) hAO hK hP hD hS hA (n := 32) (N' := 32) (by decide) (by decide) (by decide) (Nat.le_of_ble_eq_true rfl) (Nat.le_of_ble_eq_true rfl) dX1_init_7 (fun a cA H hK hP hD hS => ?_)
  have hK : va_K D vwCl [(cA, .object RX0)] s := hK
  have hP : va_P D vwCl [(h, .inr (1, [.null, .int 0, .int 0, .int 0, .int 0, .int 0, .int 0])), (a, .inl (cA, 32, .inr (.inr (.inr (.inr (fun _ => none))))))] H := hP
  have hD : va_D A [(h, .inr (1, [.null, .int 0, .int 0, .int 0, .int 0, .int 0, .int 0])), (a, .inl (cA, 32, .inr (.inr (.inr (.inr (fun _ => none))))))] := hD
  refine va_putF (D := D) (ci := 1) (v := .ref a) (ty := tyX1 0) (C := RX1) (T := TX1) (N := 7) hx hb hts hinH tyX1 tyX1_ok nmX1 hown hK hP hD hS 0 rfl rfl 0 (by decide) (hts (.fieldLink RX1 11 "MoverHall" "sectors" "[LMoverHall$Sector;") (by decide +kernel)) (fun _ h9 => h9) rfl hin rfl (by decide +kernel) rfl rfl (Nat.le_of_ble_eq_true rfl) dX1_init_10 (fun H locs hP hD hS => ?_)
  refine W.widen (k := 1 + 0) (n := 32 + 13 * 0) (by omega) (by omega) ?_
  refine lv_iconst (v := 0) hx hb dX1_init_13 (by decide) ?_
  refine lv_istore_n (lv' := [(1, .int 0), (0, .ref h)]) hx hb dX1_init_14 rfl hl (by decide) rfl (fun ls hl => ?_)
  have T0 : hw_T D A s.heap (hc_W h a (fun _ => 0) cA 0) H locs := by
    unfold hc_W
    rw [show hc_f (fun _ => 0) 0 = (fun _ => none) from by funext j; simp [hc_f]]
    exact ⟨hP, hD, hS⟩
  exact lp_init (A := A) ⟨⟨hx, hb, hml, hown, hts⟩, B.returns, B.notSynchronized, hK, hN, hA⟩ 32 0 (fun _ => 0) (by omega) _ _ _ T0 (lv_sub hl [1, 0] rfl)
