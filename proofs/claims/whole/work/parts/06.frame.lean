abbrev vwCl : List vw_C := [(RX0, TX0, 13), (RX1, TX1, 7), (RX3, TX3, 19)]
/-! THE FRAME: one form for every contract. A method called with 'av' in the world 'w' answers r and leaves the world w', at the same addresses. -/
/-- words of nest mates: they go beside the worlds, for a contract's own words can't hold them -/
def hw_isN : Cond → Bool
  | .fieldLinkNest .. => true
  | .methodLinkNest .. => true
  | _ => false
def hw_NL : List Cond := [Cond.methodLinkNest RX1 15 yX0_init "MoverHall", Cond.methodLinkNest RX1 31 yX0_plan "MoverHall", Cond.methodLinkNest RX1 42 yX0_hasNeighbour "MoverHall", Cond.methodLinkNest RX1 45 yX0_addNeighbour "MoverHall", Cond.methodLinkNest RX1 52 yX0_goBackToPlan "MoverHall", Cond.fieldLinkNest RX1 67 "MoverHall$Sector" "mover" "I" "MoverHall", Cond.fieldLinkNest RX1 74 "MoverHall$Sector" "way" "I" "MoverHall", Cond.methodLinkNest RX1 77 yX0_go "MoverHall", Cond.fieldLinkNest RX1 80 "MoverHall$Sector" "tag" "I" "MoverHall", Cond.fieldLinkNest RX1 90 "MoverHall$Sector" "floor" "I" "MoverHall", Cond.fieldLinkNest RX1 93 "MoverHall$Sector" "ceiling" "I" "MoverHall", Cond.fieldLinkNest RX1 100 "MoverHall$Sector" "waitLeft" "I" "MoverHall", Cond.fieldLinkNest RX1 112 "MoverHall$Sector" "wayEnd" "I" "MoverHall", Cond.methodLinkNest RX1 127 yX0_hasNeighbours "MoverHall", Cond.fieldLinkNest RX1 131 "MoverHall$Sector" "kind" "I" "MoverHall", Cond.fieldLinkNest RX1 134 "MoverHall$Sector" "light" "I" "MoverHall", Cond.fieldLinkNest RX1 137 "MoverHall$Sector" "startFloor" "I" "MoverHall", Cond.methodLinkNest RX1 144 yX0_dropMover "MoverHall", Cond.methodLinkNest RX1 151 yX0_waitOneTick "MoverHall", Cond.methodLinkNest RX1 167 yX0_waitFor "MoverHall"]
theorem hw_NL_ok : ∀ w ∈ hw_NL, hw_isN w = true := by decide +kernel
def hw_N (NL : List Cond) (U : State) : Prop := ∀ w ∈ NL, va_Nw w U
theorem hw_N.warm {NL : List Cond} (hn : ∀ w ∈ NL, hw_isN w = true) {s U : State} (hW : s.WarmedH U.vm) (h : hw_N NL s) : hw_N NL U := by
  intro w hw
  have h1 := hn w hw
  have h2 := h w hw
  cases w <;> first | exact va_Nw.warmF hW h2 | exact va_Nw.warmM hW h2 | (simp [hw_isN] at h1; done)
theorem hw_N.same {NL : List Cond} (hn : ∀ w ∈ NL, hw_isN w = true) {u U : State} (hvm : u.vm = U.vm) (h : hw_N NL u) : hw_N NL U := by
  intro w hw
  have h1 := hn w hw
  have h2 := h w hw
  cases w <;> first | (simp [hw_isN] at h1; done) | exact va_Nw.same rfl hvm h2
/-- the addresses of a world -/
theorem hw_D {A : Nat → Prop} {w w' : va_W} (hD : va_D A w) (ha : w'.map Prod.fst = w.map Prod.fst) : va_D A w' := by
  have key : ∀ (k : Nat) (q : Nat × va_E), w'[k]? = some q → ∃ e, w[k]? = some (q.1, e) := by
    intro k q hq
    have h1 : (w'.map Prod.fst)[k]? = some q.1 := by rw [List.getElem?_map, hq]; rfl
    rw [ha, List.getElem?_map] at h1
    cases hk : w[k]? with
    | none => rw [hk] at h1; cases h1
    | some z =>
      rw [hk] at h1
      obtain ⟨z1, z2⟩ := z
      have h2 : z1 = q.1 := Option.some.inj h1
      subst h2
      exact ⟨z2, rfl⟩
  refine ⟨fun i j x y hx hy hxy => ?_, fun k q hq => ?_⟩
  · obtain ⟨e1, h1⟩ := key i x hx
    obtain ⟨e2, h2⟩ := key j y hy
    exact hD.1 i j _ _ h1 h2 hxy
  · obtain ⟨e1, h1⟩ := key k q hq
    exact hD.2 k (q.1, e1) h1
/-- a contract's start -/
def hw_B (D : va_G) (tys : List (ClassId × FieldType)) (w : va_W) (sz : Nat) (U : State) : Prop := U.heap.size = sz ∧ va_P D vwCl w U.heap ∧ va_K D vwCl tys U ∧ hw_N hw_NL U ∧ va_D (fun _ => True) w
theorem hw_blind {av : List Value} {D : va_G} {tys : List (ClassId × FieldType)} {w : va_W} {sz : Nat} : FrameBlind (va_Pc av (hw_B D tys w sz)) := fun a U g mk q => by
  obtain ⟨q0, q1, qP, qK, qN, qD⟩ := q
  exact ⟨q0, q1, qP, va_K.moved (u := U) (U := U.calling g mk a) (Vm.Alike.refl U.vm) qK, hw_N.same hw_NL_ok (u := U) (U := U.calling g mk a) rfl qN, qD⟩
/-- the contract of a method that answers an int (or a boolean) -/
def MI (l : Launch) (D : va_G) (tys : List (ClassId × FieldType)) (y : MethodName) (ws : List Cond) (rm : Room) (av : List Value) (w : va_W) (r : Int32) (w' : va_W) : Prop :=
  ∀ sz : Nat, Met l y ws rm (va_Pc av (hw_B D tys w sz)) (va_Qi (fun (r' : Int32) (_ : Unit) => r' = r) (fun _ t => va_P D vwCl w' t.heap) (va_A w sz)) 0 0 (va_A w sz)
/-- the contract of a method that answers nothing -/
def MV (l : Launch) (D : va_G) (tys : List (ClassId × FieldType)) (y : MethodName) (ws : List Cond) (rm : Room) (av : List Value) (w : va_W) (w' : va_W) : Prop :=
  ∀ sz : Nat, Met l y ws rm (va_Pc av (hw_B D tys w sz)) (va_Qv (fun (_ : Unit) => True) (fun _ t => va_P D vwCl w' t.heap) (va_A w sz)) 0 0 (va_A w sz)
/-- a method's ground: the machine, its code, its words, the classes -/
def hw_C (p : Program) (s : State) (m : MethodId) (args : Array Value) (meth : Method) (c : Code) (cc : ByteArray) (ret : Option FieldType) (nL : Nat) (Ts : List Cond) (own : String) (D : va_G) (tys : List (ClassId × FieldType)) (A : Nat → Prop) : Prop :=
  (p.tables.exec = Jvm.exec ∧ c.code = cc ∧ c.maxLocals = nL ∧ s.vm.findClass own = some m.cls ∧ ∀ w ∈ Ts, w.before args s = true) ∧ meth.sig.returnType = ret ∧ meth.locks = false ∧ va_K D vwCl tys s ∧ hw_N hw_NL s ∧ (∀ q, s.heap.size ≤ q → A q)
/-- where a method stands: its world, apart, and nothing else changed -/
def hw_T (D : va_G) (A : Nat → Prop) (H0 : Heap) (w : va_W) (H : Heap) (locs : List Loc) : Prop := va_P D vwCl w H ∧ va_D A w ∧ va_S A H0 H locs
section HW
variable {p : Program} {l : Launch} {e : Env} {R : Room} {s : State} {m : MethodId} {args : Array Value} {below : List Frame} {meth : Method} {c : Code} {H : Heap} {locs : List Loc} {cells slots : Nat} {Q : State → Prop}
variable {cc : ByteArray} {ret : Option FieldType} {nL : Nat} {Ts : List Cond} {own : String} {D : va_G} {tys : List (ClassId × FieldType)} {A : Nat → Prop} {w w' : va_W}
theorem MI.start {y : MethodName} {ws ws' : List Cond} {rm : Room} {av : List Value} {r : Int32} {maxL : Nat} {ty : FieldType} (hy : plainName y.cls = true) (hw : ws = Cond.code y cc maxL (some ty) :: ws') (hlen : (lg_sl av).length ≤ maxL)
    (body : ∀ (p : Program) (e : Env) (s : State) (m : MethodId) (args : Array Value) (below : List Frame) (meth : Method) (c : Code) (A : Nat → Prop) (ls : Array Slot), hw_C p s m args meth c cc (some ty) maxL ws y.cls D tys A → hw_T D A s.heap w s.heap [] → lv_has ls maxL (lv_args 0 av) →
      W p l e rm s m args below meth c s.heap [] 0 0 (MQ below (va_Qi (fun (r' : Int32) (_ : Unit) => r' = r) (fun _ t => va_P D vwCl w' t.heap) A) args s 0 0 A) (F0 m 0 ls [])) : MI l D tys y ws rm av w r w' := by
  intro sz
  refine Met.ofW (cc := cc) (maxL := maxL) (ret := some ty) hy hw ?_
  intro p e s m args below meth c s₁ B hml hv
  obtain ⟨rfl, hsz, hP, hK, hN, hD0⟩ := hv
  subst hsz
  have hts := atoms_spec (ws := ws) B.pre
  have hD := hD0.self (sz := s.heap.size)
  have hl := lv_entry av (n := maxL) hlen
  rw [lg_entry_eq]
  exact body p e s m _ below meth c (va_A w s.heap.size) _ ⟨⟨B.exec, B.bytes, hml, findClass_of_methodNamed B.named, hts⟩, B.returns, B.notSynchronized, hK, hN, fun q h => Or.inr h⟩ ⟨hP, hD, va_S.rf⟩ hl
theorem MV.start {y : MethodName} {ws ws' : List Cond} {rm : Room} {av : List Value} {maxL : Nat} (hy : plainName y.cls = true) (hw : ws = Cond.code y cc maxL none :: ws') (hlen : (lg_sl av).length ≤ maxL)
    (body : ∀ (p : Program) (e : Env) (s : State) (m : MethodId) (args : Array Value) (below : List Frame) (meth : Method) (c : Code) (A : Nat → Prop) (ls : Array Slot), hw_C p s m args meth c cc none maxL ws y.cls D tys A → hw_T D A s.heap w s.heap [] → lv_has ls maxL (lv_args 0 av) →
      W p l e rm s m args below meth c s.heap [] 0 0 (MQ below (va_Qv (fun (_ : Unit) => True) (fun _ t => va_P D vwCl w' t.heap) A) args s 0 0 A) (F0 m 0 ls [])) : MV l D tys y ws rm av w w' := by
  intro sz
  refine Met.ofW (cc := cc) (maxL := maxL) (ret := none) hy hw ?_
  intro p e s m args below meth c s₁ B hml hv
  obtain ⟨rfl, hsz, hP, hK, hN, hD0⟩ := hv
  subst hsz
  have hts := atoms_spec (ws := ws) B.pre
  have hD := hD0.self (sz := s.heap.size)
  have hl := lv_entry av (n := maxL) hlen
  rw [lg_entry_eq]
  exact body p e s m _ below meth c (va_A w s.heap.size) _ ⟨⟨B.exec, B.bytes, hml, findClass_of_methodNamed B.named, hts⟩, B.returns, B.notSynchronized, hK, hN, fun q h => Or.inr h⟩ ⟨hP, hD, va_S.rf⟩ hl
theorem hw_iret {ty : FieldType} (C : hw_C p s m args meth c cc (some ty) nL Ts own D tys A) (T : hw_T D A s.heap w H locs) {v r : Int32} {pc : Nat} {ls : Array Slot} (hn : narrow ty (.int v) = .int v) (hv : v = r) (hww : w = w') (hdg : decode cc pc = .ok (.ireturn, 1)) :
    W p l e R s m args below meth c H locs 0 0 (MQ below (va_Qi (fun (r' : Int32) (_ : Unit) => r' = r) (fun _ t => va_P D vwCl w' t.heap) A) args s 0 0 A) (F0 m pc ls [.int v]) := by
  subst hv
  subst hww
  exact W.zret C.1.1 C.1.2.1 C.2.1 hn (fun t ht hW => ⟨⟨v, (), rfl, rfl, by show va_P D vwCl w t.heap; rw [ht]; exact T.1⟩, T.2.2.F ht⟩) T.2.2.2.2 hdg C.2.2.1
theorem hw_vret (C : hw_C p s m args meth c cc none nL Ts own D tys A) (T : hw_T D A s.heap w H locs) {pc : Nat} {ls : Array Slot} (hww : w = w') (hdg : decode cc pc = .ok (.return_, 1)) :
    W p l e R s m args below meth c H locs 0 0 (MQ below (va_Qv (fun (_ : Unit) => True) (fun _ t => va_P D vwCl w' t.heap) A) args s 0 0 A) (F0 m pc ls []) := by
  subst hww
  exact W.vret C.1.1 C.1.2.1 C.2.1 (fun t ht hW => ⟨⟨(), rfl, trivial, by show va_P D vwCl w t.heap; rw [ht]; exact T.1⟩, T.2.2.F ht⟩) T.2.2.2.2 hdg C.2.2.1
/-- which cells a call may change: the caller's own -/
theorem hw_free (C : hw_C p s m args meth c cc ret nL Ts own D tys A) (T : hw_T D A s.heap w H locs) : ∀ q, va_A w H.size q → A q := by
  intro q h
  rcases h with ⟨k, e, h⟩ | h
  · exact T.2.1.2 k (q, e) h
  · exact C.2.2.2.2.2 q (Nat.le_trans T.2.2.1 h)
theorem hw_pre (C : hw_C p s m args meth c cc ret nL Ts own D tys A) (T : hw_T D A s.heap w H locs) (U : State) (hU : U.heap = H) (hW : s.WarmedH U.vm) : hw_B D tys w H.size U :=
  ⟨by rw [hU], by rw [hU]; exact T.1, va_K.moved hW.alike C.2.2.2.1, hw_N.warm hw_NL_ok hW C.2.2.2.2.1, T.2.1.weaken (fun _ _ _ _ => trivial)⟩
variable {y : MethodName} {bytes : ByteArray} {maxL n index : Nat} {rt : Option FieldType} {ws : List Cond} {rm : Room} {Cn host : String} {b : Addr} {As rest st : List Value} {pc : Nat} {ls : Array Slot} {r : Int32}
/-- behind a call that answers an int -/
theorem hw_backi (C : hw_C p s m args meth c cc ret nL Ts own D tys A) (T : hw_T D A s.heap w H locs) {a : Array Value} (ha : w'.map Prod.fst = w.map Prod.fst)
    (hr : va_Run p l e R s m args below meth c H locs cells slots 0 0 (F0 m pc ls st) rest (va_Qi (fun (r' : Int32) (_ : Unit) => r' = r) (fun _ t => va_P D vwCl w' t.heap) (va_A w H.size) a) (va_A w H.size))
    (kk : ∀ (H1 : Heap) (locs1 : List Loc), hw_T D A s.heap w' H1 locs1 → W p l e R s m args below meth c H1 locs1 cells slots Q (F0 m (pc + 3) ls (.int r :: rest))) : W p l e R s m args below meth c H locs cells slots Q (F0 m pc ls st) := by
  refine va_calli hr T.2.2 (fun q _ h => hw_free C T q h) (hw_free C T) (fun r' u t H1 locs1 ht hvm hw hB hz hk hS => ?_)
  subst hw
  exact kk H1 locs1 ⟨by rw [← ht]; exact hB, hw_D T.2.1 ha, hS⟩
theorem hw_backv (C : hw_C p s m args meth c cc ret nL Ts own D tys A) (T : hw_T D A s.heap w H locs) {a : Array Value} (ha : w'.map Prod.fst = w.map Prod.fst)
    (hr : va_Run p l e R s m args below meth c H locs cells slots 0 0 (F0 m pc ls st) rest (va_Qv (fun (_ : Unit) => True) (fun _ t => va_P D vwCl w' t.heap) (va_A w H.size) a) (va_A w H.size))
    (kk : ∀ (H1 : Heap) (locs1 : List Loc), hw_T D A s.heap w' H1 locs1 → W p l e R s m args below meth c H1 locs1 cells slots Q (F0 m (pc + 3) ls rest)) : W p l e R s m args below meth c H locs cells slots Q (F0 m pc ls st) := by
  refine va_callv hr T.2.2 (fun q _ h => hw_free C T q h) (hw_free C T) (fun u t H1 locs1 ht hvm hw hB hz hk hS => ?_)
  exact kk H1 locs1 ⟨by rw [← ht]; exact hB, hw_D T.2.1 ha, hS⟩
/-- who is called: an object of the world -/
def hw_is (w : va_W) (b : Nat) (Cn : String) : Prop := ∃ (q0 ci : Nat) (q : vw_C) (fs : List Value), vwCl[ci]? = some q ∧ q.1 = Cn ∧ w[q0]? = some (b, .inr (ci, fs))
theorem hw_recv (C : hw_C p s m args meth c cc ret nL Ts own D tys A) (T : hw_T D A s.heap w H locs) (h : hw_is w b Cn) : ∃ cellB : Cell, H[b]? = some cellB ∧ cellB.vm.isStatics = false ∧ s.vm.findClass Cn = some cellB.cls := by
  obtain ⟨q0, ci, q, fs, h1, rfl, h3⟩ := h
  exact va_recv C.2.2.2.1 T.1 h1 h3
/-- invokevirtual, of the caller's own method -/
theorem hw_Vi (C : hw_C p s m args meth c cc ret nL Ts own D tys A) (T : hw_T D A s.heap w H locs) (hM : MI l D tys y ws rm (.ref b :: As) w r w') (cw : CallW R s args own Cn index y bytes maxL rt ws rm 0 0 n) (hb : hw_is w b Cn) (ha : w'.map Prod.fst = w.map Prod.fst)
    (hn : As.length = n) (hls : ls.size = nL) (hst : st = As.reverse ++ .ref b :: rest) (hroom : (rest.map fun v => v.category).sum ≤ 8) (hdg : decode cc pc = .ok (.invokevirtual index, 3)) (hR : cells + 0 ≤ R.cells ∧ slots + 0 ≤ R.slots)
    (kk : ∀ (H1 : Heap) (locs1 : List Loc), hw_T D A s.heap w' H1 locs1 → W p l e R s m args below meth c H1 locs1 cells slots Q (F0 m (pc + 3) ls (.int r :: rest))) : W p l e R s m args below meth c H locs cells slots Q (F0 m pc ls st) :=
  hw_backi C T ha (va_runV C.1 (hM H.size) cw ⟨hw_blind, hw_recv C T hb, fun U hU hW => ⟨rfl, hw_pre C T U hU hW⟩⟩ rfl hn hls hst (lv_room hroom) hdg hR) kk
theorem hw_Vv (C : hw_C p s m args meth c cc ret nL Ts own D tys A) (T : hw_T D A s.heap w H locs) (hM : MV l D tys y ws rm (.ref b :: As) w w') (cw : CallW R s args own Cn index y bytes maxL rt ws rm 0 0 n) (hb : hw_is w b Cn) (ha : w'.map Prod.fst = w.map Prod.fst)
    (hn : As.length = n) (hls : ls.size = nL) (hst : st = As.reverse ++ .ref b :: rest) (hroom : (rest.map fun v => v.category).sum ≤ 8) (hdg : decode cc pc = .ok (.invokevirtual index, 3)) (hR : cells + 0 ≤ R.cells ∧ slots + 0 ≤ R.slots)
    (kk : ∀ (H1 : Heap) (locs1 : List Loc), hw_T D A s.heap w' H1 locs1 → W p l e R s m args below meth c H1 locs1 cells slots Q (F0 m (pc + 3) ls rest)) : W p l e R s m args below meth c H locs cells slots Q (F0 m pc ls st) :=
  hw_backv C T ha (va_runV C.1 (hM H.size) cw ⟨hw_blind, hw_recv C T hb, fun U hU hW => ⟨rfl, hw_pre C T U hU hW⟩⟩ rfl hn hls hst (lv_room hroom) hdg hR) kk
/-- invokestatic, of the caller's own method -/
theorem hw_Si (C : hw_C p s m args meth c cc ret nL Ts own D tys A) (T : hw_T D A s.heap w H locs) (hM : MI l D tys y ws rm As w r w') (cw : CallB R s args own index y bytes maxL rt ws rm 0 0 n ∧ (Cond.static y).before args s = true) (ha : w'.map Prod.fst = w.map Prod.fst)
    (hn : As.length = n) (hls : ls.size = nL) (hst : st = As.reverse ++ rest) (hroom : (rest.map fun v => v.category).sum ≤ 8) (hdg : decode cc pc = .ok (.invokestatic index, 3)) (hR : cells + 0 ≤ R.cells ∧ slots + 0 ≤ R.slots)
    (kk : ∀ (H1 : Heap) (locs1 : List Loc), hw_T D A s.heap w' H1 locs1 → W p l e R s m args below meth c H1 locs1 cells slots Q (F0 m (pc + 3) ls (.int r :: rest))) : W p l e R s m args below meth c H locs cells slots Q (F0 m pc ls st) :=
  hw_backi C T ha (va_runS C.1 (hM H.size) cw ⟨hw_blind, fun U hU hW => ⟨rfl, hw_pre C T U hU hW⟩⟩ rfl hn hls hst (lv_room hroom) hdg hR) kk
/-- invokevirtual, of a nest mate's method -/
theorem hw_Ni (C : hw_C p s m args meth c cc ret nL Ts own D tys A) (T : hw_T D A s.heap w H locs) (hM : MI l D tys y ws rm (.ref b :: As) w r w') (cw : va_CN R s args own index y host bytes maxL rt ws rm 0 0 n ∧ (Cond.instanceMethod y).before args s = true ∧ (Cond.selects Cn y y).before args s = true) (hb : hw_is w b Cn) (ha : w'.map Prod.fst = w.map Prod.fst)
    (hn : As.length = n) (hls : ls.size = nL) (hst : st = As.reverse ++ .ref b :: rest) (hroom : (rest.map fun v => v.category).sum ≤ 8) (hdg : decode cc pc = .ok (.invokevirtual index, 3)) (hR : cells + 0 ≤ R.cells ∧ slots + 0 ≤ R.slots)
    (kk : ∀ (H1 : Heap) (locs1 : List Loc), hw_T D A s.heap w' H1 locs1 → W p l e R s m args below meth c H1 locs1 cells slots Q (F0 m (pc + 3) ls (.int r :: rest))) : W p l e R s m args below meth c H locs cells slots Q (F0 m pc ls st) :=
  hw_backi C T ha (va_runVN C.1 (hM H.size) cw ⟨hw_blind, hw_recv C T hb, fun U hU hW => ⟨rfl, hw_pre C T U hU hW⟩⟩ rfl hn hls hst (lv_room hroom) hdg hR) kk
theorem hw_Nv (C : hw_C p s m args meth c cc ret nL Ts own D tys A) (T : hw_T D A s.heap w H locs) (hM : MV l D tys y ws rm (.ref b :: As) w w') (cw : va_CN R s args own index y host bytes maxL rt ws rm 0 0 n ∧ (Cond.instanceMethod y).before args s = true ∧ (Cond.selects Cn y y).before args s = true) (hb : hw_is w b Cn) (ha : w'.map Prod.fst = w.map Prod.fst)
    (hn : As.length = n) (hls : ls.size = nL) (hst : st = As.reverse ++ .ref b :: rest) (hroom : (rest.map fun v => v.category).sum ≤ 8) (hdg : decode cc pc = .ok (.invokevirtual index, 3)) (hR : cells + 0 ≤ R.cells ∧ slots + 0 ≤ R.slots)
    (kk : ∀ (H1 : Heap) (locs1 : List Loc), hw_T D A s.heap w' H1 locs1 → W p l e R s m args below meth c H1 locs1 cells slots Q (F0 m (pc + 3) ls rest)) : W p l e R s m args below meth c H locs cells slots Q (F0 m pc ls st) :=
  hw_backv C T ha (va_runVN C.1 (hM H.size) cw ⟨hw_blind, hw_recv C T hb, fun U hU hW => ⟨rfl, hw_pre C T U hU hW⟩⟩ rfl hn hls hst (lv_room hroom) hdg hR) kk
end HW
/-! Two worlds side by side: a call in the first leaves the second as it was. -/
def hw_T2 (D : va_G) (A : Nat → Prop) (H0 : Heap) (w v : va_W) (H : Heap) (locs : List Loc) : Prop := va_P D vwCl w H ∧ va_P D vwCl v H ∧ va_D A (w ++ v) ∧ va_S A H0 H locs
theorem hw_Dl {A : Nat → Prop} {w v : va_W} (h : va_D A (w ++ v)) : va_D A w := by
  have key : ∀ (k : Nat) (q : Nat × va_E), w[k]? = some q → (w ++ v)[k]? = some q := fun k q hq => by
    rw [List.getElem?_append_left (List.getElem?_eq_some_iff.mp hq).1]; exact hq
  exact ⟨fun i j x y hx hy hxy => h.1 i j x y (key i x hx) (key j y hy) hxy, fun k q hq => h.2 k q (key k q hq)⟩
theorem hw_Dr {A : Nat → Prop} {w v : va_W} (h : va_D A (w ++ v)) : va_D A v := by
  have key : ∀ (k : Nat) (q : Nat × va_E), v[k]? = some q → (w ++ v)[w.length + k]? = some q := fun k q hq => by
    rw [List.getElem?_append_right (Nat.le_add_right _ _), Nat.add_sub_cancel_left]; exact hq
  refine ⟨fun i j x y hx hy hxy => ?_, fun k q hq => h.2 _ q (key k q hq)⟩
  have := h.1 _ _ x y (key i x hx) (key j y hy) hxy
  omega
theorem hw_Dx {A : Nat → Prop} {w v : va_W} (h : va_D A (w ++ v)) {i j : Nat} {x y : Nat × va_E} (hx : w[i]? = some x) (hy : v[j]? = some y) : x.1 ≠ y.1 := by
  intro e
  have hi := (List.getElem?_eq_some_iff.mp hx).1
  have h1 : (w ++ v)[i]? = some x := by rw [List.getElem?_append_left hi]; exact hx
  have h2 : (w ++ v)[w.length + j]? = some y := by rw [List.getElem?_append_right (Nat.le_add_right _ _), Nat.add_sub_cancel_left]; exact hy
  have := h.1 _ _ x y h1 h2 e
  omega
theorem hw_Dswap {A : Nat → Prop} {w v : va_W} (h : va_D A (w ++ v)) : va_D A (v ++ w) := va_D.app (hw_Dr h) (hw_Dl h) (fun i j p q hp hq e => hw_Dx h hq hp e.symm)
theorem hw_T2.swap {D : va_G} {A : Nat → Prop} {H0 : Heap} {w v : va_W} {H : Heap} {locs : List Loc} (T : hw_T2 D A H0 w v H locs) : hw_T2 D A H0 v w H locs := ⟨T.2.1, T.1, hw_Dswap T.2.2.1, T.2.2.2⟩
theorem hw_T2.fst {D : va_G} {A : Nat → Prop} {H0 : Heap} {w v : va_W} {H : Heap} {locs : List Loc} (T : hw_T2 D A H0 w v H locs) : hw_T D A H0 w H locs := ⟨T.1, hw_Dl T.2.2.1, T.2.2.2⟩
theorem hw_kept {D : va_G} {A : Nat → Prop} {H0 : Heap} {w w' v : va_W} {H H1 : Heap} {locs locs1 : List Loc} (T : hw_T2 D A H0 w v H locs) (ha : w'.map Prod.fst = w.map Prod.fst) (hP : va_P D vwCl w' H1) (hk : ∀ q : Nat, q < H.size → ¬ va_A w H.size q → H1[q]? = H[q]?) (hS : va_S A H0 H1 locs1) : hw_T2 D A H0 w' v H1 locs1 := by
  refine ⟨hP, T.2.1.kept (fun k q hq => hk q.1 (T.2.1 k q hq).lt (fun h => ?_)), hw_D T.2.2.1 (by rw [List.map_append, List.map_append, ha]), hS⟩
  rcases h with ⟨j, e, h⟩ | h
  · exact hw_Dx T.2.2.1 h hq rfl
  · exact absurd (T.2.1 k q hq).lt (Nat.not_lt.mpr h)
section HW2
variable {p : Program} {l : Launch} {e : Env} {R : Room} {s : State} {m : MethodId} {args : Array Value} {below : List Frame} {meth : Method} {c : Code} {H : Heap} {locs : List Loc} {cells slots : Nat} {Q : State → Prop}
variable {cc : ByteArray} {ret : Option FieldType} {nL : Nat} {Ts : List Cond} {own : String} {D : va_G} {tys : List (ClassId × FieldType)} {A : Nat → Prop} {w w' v : va_W}
variable {y : MethodName} {bytes : ByteArray} {maxL n index : Nat} {rt : Option FieldType} {ws : List Cond} {rm : Room} {Cn host : String} {b : Addr} {As rest st : List Value} {pc : Nat} {ls : Array Slot} {r : Int32}
theorem hw_2i (C : hw_C p s m args meth c cc ret nL Ts own D tys A) (T : hw_T2 D A s.heap w v H locs) (hM : MI l D tys y ws rm (.ref b :: As) w r w') (cw : CallW R s args own Cn index y bytes maxL rt ws rm 0 0 n) (hb : hw_is w b Cn) (ha : w'.map Prod.fst = w.map Prod.fst)
    (hn : As.length = n) (hls : ls.size = nL) (hst : st = As.reverse ++ .ref b :: rest) (hroom : (rest.map fun v => v.category).sum ≤ 8) (hdg : decode cc pc = .ok (.invokevirtual index, 3)) (hR : cells + 0 ≤ R.cells ∧ slots + 0 ≤ R.slots)
    (kk : ∀ (H1 : Heap) (locs1 : List Loc), hw_T2 D A s.heap w' v H1 locs1 → W p l e R s m args below meth c H1 locs1 cells slots Q (F0 m (pc + 3) ls (.int r :: rest))) : W p l e R s m args below meth c H locs cells slots Q (F0 m pc ls st) := by
  refine va_calli (va_runV C.1 (hM H.size) cw ⟨hw_blind, hw_recv C T.fst hb, fun U hU hW => ⟨rfl, hw_pre C T.fst U hU hW⟩⟩ rfl hn hls hst (lv_room hroom) hdg hR) T.2.2.2 (fun q _ h => hw_free C T.fst q h) (hw_free C T.fst) (fun r' u t H1 locs1 ht hvm hw hB hz hk hS => ?_)
  subst hw
  exact kk H1 locs1 (hw_kept T ha (by rw [← ht]; exact hB) hk hS)
theorem hw_2v (C : hw_C p s m args meth c cc ret nL Ts own D tys A) (T : hw_T2 D A s.heap w v H locs) (hM : MV l D tys y ws rm (.ref b :: As) w w') (cw : CallW R s args own Cn index y bytes maxL rt ws rm 0 0 n) (hb : hw_is w b Cn) (ha : w'.map Prod.fst = w.map Prod.fst)
    (hn : As.length = n) (hls : ls.size = nL) (hst : st = As.reverse ++ .ref b :: rest) (hroom : (rest.map fun v => v.category).sum ≤ 8) (hdg : decode cc pc = .ok (.invokevirtual index, 3)) (hR : cells + 0 ≤ R.cells ∧ slots + 0 ≤ R.slots)
    (kk : ∀ (H1 : Heap) (locs1 : List Loc), hw_T2 D A s.heap w' v H1 locs1 → W p l e R s m args below meth c H1 locs1 cells slots Q (F0 m (pc + 3) ls rest)) : W p l e R s m args below meth c H locs cells slots Q (F0 m pc ls st) := by
  refine va_callv (va_runV C.1 (hM H.size) cw ⟨hw_blind, hw_recv C T.fst hb, fun U hU hW => ⟨rfl, hw_pre C T.fst U hU hW⟩⟩ rfl hn hls hst (lv_room hroom) hdg hR) T.2.2.2 (fun q _ h => hw_free C T.fst q h) (hw_free C T.fst) (fun u t H1 locs1 ht hvm hw hB hz hk hS => ?_)
  exact kk H1 locs1 (hw_kept T ha (by rw [← ht]; exact hB) hk hS)
end HW2
