-- ===== PART A: goes FIRST, ahead of the names: the tables' words, and 'selects' of the private methods out of them =====
/-- a private method of a class that the tables say can be made, by its rows of tables_1 -/
def lw_okq (q : MethodName × Nat) : Prop := (q.1.cls ≠ "java/lang/invoke/MethodHandle" ∧ q.1.cls ≠ "java/lang/invoke/VarHandle") ∧ Cond.instantiable q.1.cls q.2 ∈ tables_1 ∧ Cond.privateMethod q.1 ∈ tables_1 ∧ Cond.instanceMethod q.1 ∈ tables_1
theorem lw_p0 : lw_okq (⟨"MoverHall$Sector", "plan", "(IIIII)V"⟩, 13) := ⟨⟨by decide +kernel, by decide +kernel⟩, List.mem_of_getElem? (i := 15) (by decide +kernel), List.mem_of_getElem? (i := 102) (by decide +kernel), List.mem_of_getElem? (i := 103) (by decide +kernel)⟩
theorem lw_p1 : lw_okq (⟨"MoverHall$Sector", "goBackToPlan", "()V"⟩, 13) := ⟨⟨by decide +kernel, by decide +kernel⟩, List.mem_of_getElem? (i := 15) (by decide +kernel), List.mem_of_getElem? (i := 110) (by decide +kernel), List.mem_of_getElem? (i := 111) (by decide +kernel)⟩
theorem lw_p2 : lw_okq (⟨"MoverHall$Sector", "dropMover", "()V"⟩, 13) := ⟨⟨by decide +kernel, by decide +kernel⟩, List.mem_of_getElem? (i := 15) (by decide +kernel), List.mem_of_getElem? (i := 114) (by decide +kernel), List.mem_of_getElem? (i := 115) (by decide +kernel)⟩
theorem lw_p3 : lw_okq (⟨"MoverHall", "isSector", "(I)Z"⟩, 7) := ⟨⟨by decide +kernel, by decide +kernel⟩, List.mem_of_getElem? (i := 6) (by decide +kernel), List.mem_of_getElem? (i := 122) (by decide +kernel), List.mem_of_getElem? (i := 123) (by decide +kernel)⟩
theorem lw_p4 : lw_okq (⟨"MoverHall$Sector", "hasNeighbour", "(I)Z"⟩, 13) := ⟨⟨by decide +kernel, by decide +kernel⟩, List.mem_of_getElem? (i := 15) (by decide +kernel), List.mem_of_getElem? (i := 126) (by decide +kernel), List.mem_of_getElem? (i := 127) (by decide +kernel)⟩
theorem lw_p5 : lw_okq (⟨"MoverHall$Sector", "addNeighbour", "(I)V"⟩, 13) := ⟨⟨by decide +kernel, by decide +kernel⟩, List.mem_of_getElem? (i := 15) (by decide +kernel), List.mem_of_getElem? (i := 130) (by decide +kernel), List.mem_of_getElem? (i := 131) (by decide +kernel)⟩
theorem lw_p6 : lw_okq (⟨"MoverHall", "start", "(LMoverHall$Sector;I)V"⟩, 7) := ⟨⟨by decide +kernel, by decide +kernel⟩, List.mem_of_getElem? (i := 6) (by decide +kernel), List.mem_of_getElem? (i := 146) (by decide +kernel), List.mem_of_getElem? (i := 147) (by decide +kernel)⟩
theorem lw_p7 : lw_okq (⟨"MoverHall", "endOfWay", "(LMoverHall$Sector;I)I"⟩, 7) := ⟨⟨by decide +kernel, by decide +kernel⟩, List.mem_of_getElem? (i := 6) (by decide +kernel), List.mem_of_getElem? (i := 150) (by decide +kernel), List.mem_of_getElem? (i := 151) (by decide +kernel)⟩
theorem lw_p8 : lw_okq (⟨"MoverHall", "lowCeiling", "(LMoverHall$Sector;)I"⟩, 7) := ⟨⟨by decide +kernel, by decide +kernel⟩, List.mem_of_getElem? (i := 6) (by decide +kernel), List.mem_of_getElem? (i := 154) (by decide +kernel), List.mem_of_getElem? (i := 155) (by decide +kernel)⟩
theorem lw_p9 : lw_okq (⟨"MoverHall$Sector", "hasNeighbours", "()Z"⟩, 13) := ⟨⟨by decide +kernel, by decide +kernel⟩, List.mem_of_getElem? (i := 15) (by decide +kernel), List.mem_of_getElem? (i := 158) (by decide +kernel), List.mem_of_getElem? (i := 159) (by decide +kernel)⟩
theorem lw_p10 : lw_okq (⟨"MoverHall", "lowFloor", "(LMoverHall$Sector;)I"⟩, 7) := ⟨⟨by decide +kernel, by decide +kernel⟩, List.mem_of_getElem? (i := 6) (by decide +kernel), List.mem_of_getElem? (i := 168) (by decide +kernel), List.mem_of_getElem? (i := 169) (by decide +kernel)⟩
theorem lw_p11 : lw_okq (⟨"MoverHall", "highFloor", "(LMoverHall$Sector;)I"⟩, 7) := ⟨⟨by decide +kernel, by decide +kernel⟩, List.mem_of_getElem? (i := 6) (by decide +kernel), List.mem_of_getElem? (i := 172) (by decide +kernel), List.mem_of_getElem? (i := 173) (by decide +kernel)⟩
theorem lw_p12 : lw_okq (⟨"MoverHall$Sector", "go", "(I)V"⟩, 13) := ⟨⟨by decide +kernel, by decide +kernel⟩, List.mem_of_getElem? (i := 15) (by decide +kernel), List.mem_of_getElem? (i := 176) (by decide +kernel), List.mem_of_getElem? (i := 177) (by decide +kernel)⟩
theorem lw_p13 : lw_okq (⟨"MoverHall", "passOneTick", "()V"⟩, 7) := ⟨⟨by decide +kernel, by decide +kernel⟩, List.mem_of_getElem? (i := 6) (by decide +kernel), List.mem_of_getElem? (i := 193) (by decide +kernel), List.mem_of_getElem? (i := 194) (by decide +kernel)⟩
theorem lw_p14 : lw_okq (⟨"MoverHall", "move", "(LMoverHall$Sector;Z)V"⟩, 7) := ⟨⟨by decide +kernel, by decide +kernel⟩, List.mem_of_getElem? (i := 6) (by decide +kernel), List.mem_of_getElem? (i := 197) (by decide +kernel), List.mem_of_getElem? (i := 198) (by decide +kernel)⟩
theorem lw_p15 : lw_okq (⟨"MoverHall$Sector", "waitOneTick", "()V"⟩, 13) := ⟨⟨by decide +kernel, by decide +kernel⟩, List.mem_of_getElem? (i := 15) (by decide +kernel), List.mem_of_getElem? (i := 201) (by decide +kernel), List.mem_of_getElem? (i := 202) (by decide +kernel)⟩
def lw_privs_1 : List (MethodName × Nat) := [(⟨"MoverHall$Sector", "plan", "(IIIII)V"⟩, 13), (⟨"MoverHall$Sector", "goBackToPlan", "()V"⟩, 13), (⟨"MoverHall$Sector", "dropMover", "()V"⟩, 13), (⟨"MoverHall", "isSector", "(I)Z"⟩, 7), (⟨"MoverHall$Sector", "hasNeighbour", "(I)Z"⟩, 13), (⟨"MoverHall$Sector", "addNeighbour", "(I)V"⟩, 13), (⟨"MoverHall", "start", "(LMoverHall$Sector;I)V"⟩, 7), (⟨"MoverHall", "endOfWay", "(LMoverHall$Sector;I)I"⟩, 7), (⟨"MoverHall", "lowCeiling", "(LMoverHall$Sector;)I"⟩, 7), (⟨"MoverHall$Sector", "hasNeighbours", "()Z"⟩, 13), (⟨"MoverHall", "lowFloor", "(LMoverHall$Sector;)I"⟩, 7), (⟨"MoverHall", "highFloor", "(LMoverHall$Sector;)I"⟩, 7), (⟨"MoverHall$Sector", "go", "(I)V"⟩, 13), (⟨"MoverHall", "passOneTick", "()V"⟩, 7), (⟨"MoverHall", "move", "(LMoverHall$Sector;Z)V"⟩, 7), (⟨"MoverHall$Sector", "waitOneTick", "()V"⟩, 13)]
theorem lw_r1 : ∀ q ∈ lw_privs_1, lw_okq q := List.forall_mem_cons.mpr ⟨lw_p0, List.forall_mem_cons.mpr ⟨lw_p1, List.forall_mem_cons.mpr ⟨lw_p2, List.forall_mem_cons.mpr ⟨lw_p3, List.forall_mem_cons.mpr ⟨lw_p4, List.forall_mem_cons.mpr ⟨lw_p5, List.forall_mem_cons.mpr ⟨lw_p6, List.forall_mem_cons.mpr ⟨lw_p7, List.forall_mem_cons.mpr ⟨lw_p8, List.forall_mem_cons.mpr ⟨lw_p9, List.forall_mem_cons.mpr ⟨lw_p10, List.forall_mem_cons.mpr ⟨lw_p11, List.forall_mem_cons.mpr ⟨lw_p12, List.forall_mem_cons.mpr ⟨lw_p13, List.forall_mem_cons.mpr ⟨lw_p14, List.forall_mem_cons.mpr ⟨lw_p15, fun _ h => absurd h List.not_mem_nil⟩⟩⟩⟩⟩⟩⟩⟩⟩⟩⟩⟩⟩⟩⟩⟩
theorem lw_p16 : lw_okq (⟨"MoverHall", "moveDoor", "(LMoverHall$Sector;Z)V"⟩, 7) := ⟨⟨by decide +kernel, by decide +kernel⟩, List.mem_of_getElem? (i := 6) (by decide +kernel), List.mem_of_getElem? (i := 205) (by decide +kernel), List.mem_of_getElem? (i := 206) (by decide +kernel)⟩
theorem lw_p17 : lw_okq (⟨"MoverHall", "closeDoor", "(LMoverHall$Sector;Z)V"⟩, 7) := ⟨⟨by decide +kernel, by decide +kernel⟩, List.mem_of_getElem? (i := 6) (by decide +kernel), List.mem_of_getElem? (i := 209) (by decide +kernel), List.mem_of_getElem? (i := 210) (by decide +kernel)⟩
theorem lw_p18 : lw_okq (⟨"MoverHall", "finish", "(LMoverHall$Sector;)V"⟩, 7) := ⟨⟨by decide +kernel, by decide +kernel⟩, List.mem_of_getElem? (i := 6) (by decide +kernel), List.mem_of_getElem? (i := 213) (by decide +kernel), List.mem_of_getElem? (i := 214) (by decide +kernel)⟩
theorem lw_p19 : lw_okq (⟨"MoverHall$Sector", "waitFor", "(I)V"⟩, 13) := ⟨⟨by decide +kernel, by decide +kernel⟩, List.mem_of_getElem? (i := 15) (by decide +kernel), List.mem_of_getElem? (i := 218) (by decide +kernel), List.mem_of_getElem? (i := 219) (by decide +kernel)⟩
theorem lw_p20 : lw_okq (⟨"MoverHall", "moveLift", "(LMoverHall$Sector;Z)V"⟩, 7) := ⟨⟨by decide +kernel, by decide +kernel⟩, List.mem_of_getElem? (i := 6) (by decide +kernel), List.mem_of_getElem? (i := 222) (by decide +kernel), List.mem_of_getElem? (i := 223) (by decide +kernel)⟩
theorem lw_p21 : lw_okq (⟨"MoverHall", "raiseFloor", "(LMoverHall$Sector;IIZ)V"⟩, 7) := ⟨⟨by decide +kernel, by decide +kernel⟩, List.mem_of_getElem? (i := 6) (by decide +kernel), List.mem_of_getElem? (i := 226) (by decide +kernel), List.mem_of_getElem? (i := 227) (by decide +kernel)⟩
theorem lw_p22 : lw_okq (⟨"MoverHall", "lightNow", "(LMoverHall$Sector;)I"⟩, 7) := ⟨⟨by decide +kernel, by decide +kernel⟩, List.mem_of_getElem? (i := 6) (by decide +kernel), List.mem_of_getElem? (i := 235) (by decide +kernel), List.mem_of_getElem? (i := 236) (by decide +kernel)⟩
theorem lw_p23 : lw_okq (⟨"MoverHallModel", "isSector", "(I)Z"⟩, 19) := ⟨⟨by decide +kernel, by decide +kernel⟩, List.mem_of_getElem? (i := 252) (by decide +kernel), List.mem_of_getElem? (i := 330) (by decide +kernel), List.mem_of_getElem? (i := 331) (by decide +kernel)⟩
theorem lw_p24 : lw_okq (⟨"MoverHallModel", "lowCeiling", "(I)I"⟩, 19) := ⟨⟨by decide +kernel, by decide +kernel⟩, List.mem_of_getElem? (i := 252) (by decide +kernel), List.mem_of_getElem? (i := 343) (by decide +kernel), List.mem_of_getElem? (i := 344) (by decide +kernel)⟩
theorem lw_p25 : lw_okq (⟨"MoverHallModel", "highFloor", "(I)I"⟩, 19) := ⟨⟨by decide +kernel, by decide +kernel⟩, List.mem_of_getElem? (i := 252) (by decide +kernel), List.mem_of_getElem? (i := 348) (by decide +kernel), List.mem_of_getElem? (i := 349) (by decide +kernel)⟩
theorem lw_p26 : lw_okq (⟨"MoverHallModel", "lowFloor", "(I)I"⟩, 19) := ⟨⟨by decide +kernel, by decide +kernel⟩, List.mem_of_getElem? (i := 252) (by decide +kernel), List.mem_of_getElem? (i := 352) (by decide +kernel), List.mem_of_getElem? (i := 353) (by decide +kernel)⟩
theorem lw_p27 : lw_okq (⟨"MoverHallModel", "step", "(I)V"⟩, 19) := ⟨⟨by decide +kernel, by decide +kernel⟩, List.mem_of_getElem? (i := 252) (by decide +kernel), List.mem_of_getElem? (i := 369) (by decide +kernel), List.mem_of_getElem? (i := 370) (by decide +kernel)⟩
theorem lw_p28 : lw_okq (⟨"MoverHallModel", "stepDoor", "(I)V"⟩, 19) := ⟨⟨by decide +kernel, by decide +kernel⟩, List.mem_of_getElem? (i := 252) (by decide +kernel), List.mem_of_getElem? (i := 373) (by decide +kernel), List.mem_of_getElem? (i := 374) (by decide +kernel)⟩
theorem lw_p29 : lw_okq (⟨"MoverHallModel", "await", "(II)V"⟩, 19) := ⟨⟨by decide +kernel, by decide +kernel⟩, List.mem_of_getElem? (i := 252) (by decide +kernel), List.mem_of_getElem? (i := 377) (by decide +kernel), List.mem_of_getElem? (i := 378) (by decide +kernel)⟩
theorem lw_p30 : lw_okq (⟨"MoverHallModel", "end", "(I)V"⟩, 19) := ⟨⟨by decide +kernel, by decide +kernel⟩, List.mem_of_getElem? (i := 252) (by decide +kernel), List.mem_of_getElem? (i := 381) (by decide +kernel), List.mem_of_getElem? (i := 382) (by decide +kernel)⟩
theorem lw_p31 : lw_okq (⟨"MoverHallModel", "rise", "(III)V"⟩, 19) := ⟨⟨by decide +kernel, by decide +kernel⟩, List.mem_of_getElem? (i := 252) (by decide +kernel), List.mem_of_getElem? (i := 385) (by decide +kernel), List.mem_of_getElem? (i := 386) (by decide +kernel)⟩
def lw_privs_2 : List (MethodName × Nat) := [(⟨"MoverHall", "moveDoor", "(LMoverHall$Sector;Z)V"⟩, 7), (⟨"MoverHall", "closeDoor", "(LMoverHall$Sector;Z)V"⟩, 7), (⟨"MoverHall", "finish", "(LMoverHall$Sector;)V"⟩, 7), (⟨"MoverHall$Sector", "waitFor", "(I)V"⟩, 13), (⟨"MoverHall", "moveLift", "(LMoverHall$Sector;Z)V"⟩, 7), (⟨"MoverHall", "raiseFloor", "(LMoverHall$Sector;IIZ)V"⟩, 7), (⟨"MoverHall", "lightNow", "(LMoverHall$Sector;)I"⟩, 7), (⟨"MoverHallModel", "isSector", "(I)Z"⟩, 19), (⟨"MoverHallModel", "lowCeiling", "(I)I"⟩, 19), (⟨"MoverHallModel", "highFloor", "(I)I"⟩, 19), (⟨"MoverHallModel", "lowFloor", "(I)I"⟩, 19), (⟨"MoverHallModel", "step", "(I)V"⟩, 19), (⟨"MoverHallModel", "stepDoor", "(I)V"⟩, 19), (⟨"MoverHallModel", "await", "(II)V"⟩, 19), (⟨"MoverHallModel", "end", "(I)V"⟩, 19), (⟨"MoverHallModel", "rise", "(III)V"⟩, 19)]
theorem lw_r2 : ∀ q ∈ lw_privs_2, lw_okq q := List.forall_mem_cons.mpr ⟨lw_p16, List.forall_mem_cons.mpr ⟨lw_p17, List.forall_mem_cons.mpr ⟨lw_p18, List.forall_mem_cons.mpr ⟨lw_p19, List.forall_mem_cons.mpr ⟨lw_p20, List.forall_mem_cons.mpr ⟨lw_p21, List.forall_mem_cons.mpr ⟨lw_p22, List.forall_mem_cons.mpr ⟨lw_p23, List.forall_mem_cons.mpr ⟨lw_p24, List.forall_mem_cons.mpr ⟨lw_p25, List.forall_mem_cons.mpr ⟨lw_p26, List.forall_mem_cons.mpr ⟨lw_p27, List.forall_mem_cons.mpr ⟨lw_p28, List.forall_mem_cons.mpr ⟨lw_p29, List.forall_mem_cons.mpr ⟨lw_p30, List.forall_mem_cons.mpr ⟨lw_p31, fun _ h => absurd h List.not_mem_nil⟩⟩⟩⟩⟩⟩⟩⟩⟩⟩⟩⟩⟩⟩⟩⟩
theorem lw_p32 : lw_okq (⟨"MoverHallModel", "lightOf", "(I)I"⟩, 19) := ⟨⟨by decide +kernel, by decide +kernel⟩, List.mem_of_getElem? (i := 252) (by decide +kernel), List.mem_of_getElem? (i := 393) (by decide +kernel), List.mem_of_getElem? (i := 394) (by decide +kernel)⟩
theorem lw_p33 : lw_okq (⟨"MoverHallModel", "many", "()I"⟩, 19) := ⟨⟨by decide +kernel, by decide +kernel⟩, List.mem_of_getElem? (i := 252) (by decide +kernel), List.mem_of_getElem? (i := 397) (by decide +kernel), List.mem_of_getElem? (i := 398) (by decide +kernel)⟩
def lw_privs_3 : List (MethodName × Nat) := [(⟨"MoverHallModel", "lightOf", "(I)I"⟩, 19), (⟨"MoverHallModel", "many", "()I"⟩, 19)]
theorem lw_r3 : ∀ q ∈ lw_privs_3, lw_okq q := List.forall_mem_cons.mpr ⟨lw_p32, List.forall_mem_cons.mpr ⟨lw_p33, fun _ h => absurd h List.not_mem_nil⟩⟩
def lw_privs : List (MethodName × Nat) := lw_privs_1 ++ (lw_privs_2 ++ (lw_privs_3))
def lw_tbl : List Cond := k2_sels lw_privs ++ tables_1
theorem lw_privs_ok : ∀ q ∈ lw_privs, lw_okq q := by
  show ∀ q ∈ lw_privs_1 ++ (lw_privs_2 ++ (lw_privs_3)), lw_okq q
  exact List.forall_mem_append.mpr ⟨lw_r1, List.forall_mem_append.mpr ⟨lw_r2, lw_r3⟩⟩
/-! ===== BEGIN words of one list among another's, by their places ===== -/
theorem goodIn_r {big : List Cond} (ws : List Cond) (ps : List Nat) (hp : ws = ps.filterMap (fun i => big[i]?)) (h : ws.all goodWord = true) : GoodIn big ws := by
  intro w hw
  have h1 := List.all_eq_true.mp h w hw
  rw [hp] at hw
  obtain ⟨i, -, hi⟩ := List.mem_filterMap.mp hw
  have hm : w ∈ big := by first | exact List.mem_of_getElem? hi | exact List.getElem?_mem hi
  exact ⟨hm, good_of_word h1⟩
theorem goodIn_app {big a b : List Cond} (ha : GoodIn big a) (hb : GoodIn big b) : GoodIn big (a ++ b) := fun w h => (List.mem_append.mp h).elim (ha w) (hb w)
theorem goodIn_ca {big a b : List Cond} {c : Cond} (ha : GoodIn big (c :: a)) (hb : GoodIn big b) : GoodIn big (c :: (a ++ b)) := fun w h => (List.mem_cons.mp h).elim (fun e => ha w (List.mem_cons.mpr (Or.inl e))) (fun h => (List.mem_append.mp h).elim (fun h => ha w (List.mem_cons.mpr (Or.inr h))) (hb w))
theorem goodIn_sub {big ws : List Cond} (hm : ∀ w ∈ ws, w ∈ big) (h : ws.all goodWord = true) : GoodIn big ws := fun w hw => ⟨hm w hw, good_of_word (List.all_eq_true.mp h w hw)⟩
/-! ===== END ===== -/

/-! ===== BEGIN printed: names, fields, word lists, decode rows ===== -/
def RX0 : String := "MoverHall$Sector"
def TX0 : u_T := fun k => match k with
  | 0 => ("MoverHall$Sector", "plannedFloor", "I", false)
  | 1 => ("MoverHall$Sector", "plannedCeiling", "I", false)
  | 2 => ("MoverHall$Sector", "light", "I", false)
  | 3 => ("MoverHall$Sector", "kind", "I", false)
  | 4 => ("MoverHall$Sector", "tag", "I", false)
  | 5 => ("MoverHall$Sector", "neighbours", "I", false)
  | 6 => ("MoverHall$Sector", "floor", "I", false)
  | 7 => ("MoverHall$Sector", "ceiling", "I", false)
  | 8 => ("MoverHall$Sector", "mover", "I", false)
  | 9 => ("MoverHall$Sector", "way", "I", false)
  | 10 => ("MoverHall$Sector", "waitLeft", "I", false)
  | 11 => ("MoverHall$Sector", "wayEnd", "I", false)
  | _ => ("MoverHall$Sector", "startFloor", "I", false)
def tyX0 : Nat → FieldType := fun k => match k with
  | 0 => .int
  | 1 => .int
  | 2 => .int
  | 3 => .int
  | 4 => .int
  | 5 => .int
  | 6 => .int
  | 7 => .int
  | 8 => .int
  | 9 => .int
  | 10 => .int
  | 11 => .int
  | _ => .int
abbrev wsX00 : List Cond := u_ws RX0 TX0 13
theorem nmX0 : ∀ a, a < 13 → ∀ b, b < 13 → a ≠ b → (TX0 a).2.1 ≠ (TX0 b).2.1 := by decide +kernel
theorem tyX0_ok : ∀ k, k < 13 → parseFieldDescriptor (TX0 k).2.2.1 = some (tyX0 k) := by decide +kernel
abbrev cX0_init : ByteArray := prog_2_method_1_code
def yX0_init : MethodName := ⟨RX0, "<init>", "()V"⟩
abbrev cX0_plan : ByteArray := prog_2_method_2_code
def yX0_plan : MethodName := ⟨RX0, "plan", "(IIIII)V"⟩
abbrev cX0_goBackToPlan : ByteArray := prog_2_method_3_code
def yX0_goBackToPlan : MethodName := ⟨RX0, "goBackToPlan", "()V"⟩
abbrev cX0_dropMover : ByteArray := prog_2_method_4_code
def yX0_dropMover : MethodName := ⟨RX0, "dropMover", "()V"⟩
abbrev cX0_hasNeighbour : ByteArray := prog_2_method_5_code
def yX0_hasNeighbour : MethodName := ⟨RX0, "hasNeighbour", "(I)Z"⟩
abbrev cX0_hasNeighbours : ByteArray := prog_2_method_6_code
def yX0_hasNeighbours : MethodName := ⟨RX0, "hasNeighbours", "()Z"⟩
abbrev cX0_addNeighbour : ByteArray := prog_2_method_7_code
def yX0_addNeighbour : MethodName := ⟨RX0, "addNeighbour", "(I)V"⟩
abbrev cX0_go : ByteArray := prog_2_method_8_code
def yX0_go : MethodName := ⟨RX0, "go", "(I)V"⟩
abbrev cX0_waitFor : ByteArray := prog_2_method_9_code
def yX0_waitFor : MethodName := ⟨RX0, "waitFor", "(I)V"⟩
abbrev cX0_waitOneTick : ByteArray := prog_2_method_10_code
def yX0_waitOneTick : MethodName := ⟨RX0, "waitOneTick", "()V"⟩
def RX1 : String := "MoverHall"
def TX1 : u_T := fun k => match k with
  | 0 => ("MoverHall", "sectors", "[LMoverHall$Sector;", true)
  | 1 => ("MoverHall", "sectorCount", "I", false)
  | 2 => ("MoverHall", "pairCount", "I", false)
  | 3 => ("MoverHall", "tickCount", "I", false)
  | 4 => ("MoverHall", "moverCount", "I", false)
  | 5 => ("MoverHall", "blockedCount", "I", false)
  | _ => ("MoverHall", "guestSector", "I", false)
def tyX1 : Nat → FieldType := fun k => match k with
  | 0 => .array (.object "MoverHall$Sector")
  | 1 => .int
  | 2 => .int
  | 3 => .int
  | 4 => .int
  | 5 => .int
  | _ => .int
abbrev wsX10 : List Cond := u_ws RX1 TX1 7
theorem nmX1 : ∀ a, a < 7 → ∀ b, b < 7 → a ≠ b → (TX1 a).2.1 ≠ (TX1 b).2.1 := by decide +kernel
theorem tyX1_ok : ∀ k, k < 7 → parseFieldDescriptor (TX1 k).2.2.1 = some (tyX1 k) := by decide +kernel
abbrev cX1_init : ByteArray := prog_1_method_1_code
def yX1_init : MethodName := ⟨RX1, "<init>", "()V"⟩
abbrev cX1_sector : ByteArray := prog_1_method_2_code
def yX1_sector : MethodName := ⟨RX1, "sector", "(IIIII)I"⟩
abbrev cX1_join : ByteArray := prog_1_method_3_code
def yX1_join : MethodName := ⟨RX1, "join", "(II)Z"⟩
abbrev cX1_reset : ByteArray := prog_1_method_4_code
def yX1_reset : MethodName := ⟨RX1, "reset", "()V"⟩
abbrev cX1_clear : ByteArray := prog_1_method_5_code
def yX1_clear : MethodName := ⟨RX1, "clear", "()V"⟩
abbrev cX1_begin : ByteArray := prog_1_method_6_code
def yX1_begin : MethodName := ⟨RX1, "begin", "(II)Z"⟩
abbrev cX1_tag : ByteArray := prog_1_method_7_code
def yX1_tag : MethodName := ⟨RX1, "tag", "(II)I"⟩
abbrev cX1_enter : ByteArray := prog_1_method_8_code
def yX1_enter : MethodName := ⟨RX1, "enter", "(I)Z"⟩
abbrev cX1_ticks : ByteArray := prog_1_method_9_code
def yX1_ticks : MethodName := ⟨RX1, "ticks", "(I)I"⟩
abbrev cX1_of : ByteArray := prog_1_method_10_code
def yX1_of : MethodName := ⟨RX1, "of", "(II)I"⟩
abbrev cX1_isWithin : ByteArray := prog_1_method_14_code
def yX1_isWithin : MethodName := ⟨RX1, "isWithin", "(III)Z"⟩
abbrev cX1_isShape : ByteArray := prog_1_method_15_code
def yX1_isShape : MethodName := ⟨RX1, "isShape", "(II)Z"⟩
abbrev cX1_isMover : ByteArray := prog_1_method_16_code
def yX1_isMover : MethodName := ⟨RX1, "isMover", "(I)Z"⟩
abbrev cX1_isSector : ByteArray := prog_1_method_17_code
def yX1_isSector : MethodName := ⟨RX1, "isSector", "(I)Z"⟩
abbrev cX1_lowFloor : ByteArray := prog_1_method_18_code
def yX1_lowFloor : MethodName := ⟨RX1, "lowFloor", "(LMoverHall$Sector;)I"⟩
abbrev cX1_highFloor : ByteArray := prog_1_method_19_code
def yX1_highFloor : MethodName := ⟨RX1, "highFloor", "(LMoverHall$Sector;)I"⟩
abbrev cX1_lowCeiling : ByteArray := prog_1_method_20_code
def yX1_lowCeiling : MethodName := ⟨RX1, "lowCeiling", "(LMoverHall$Sector;)I"⟩
abbrev cX1_lightNow : ByteArray := prog_1_method_21_code
def yX1_lightNow : MethodName := ⟨RX1, "lightNow", "(LMoverHall$Sector;)I"⟩
abbrev cX1_start : ByteArray := prog_1_method_22_code
def yX1_start : MethodName := ⟨RX1, "start", "(LMoverHall$Sector;I)V"⟩
abbrev cX1_endOfWay : ByteArray := prog_1_method_23_code
def yX1_endOfWay : MethodName := ⟨RX1, "endOfWay", "(LMoverHall$Sector;I)I"⟩
abbrev cX1_finish : ByteArray := prog_1_method_24_code
def yX1_finish : MethodName := ⟨RX1, "finish", "(LMoverHall$Sector;)V"⟩
abbrev cX1_passOneTick : ByteArray := prog_1_method_25_code
def yX1_passOneTick : MethodName := ⟨RX1, "passOneTick", "()V"⟩
abbrev cX1_move : ByteArray := prog_1_method_26_code
def yX1_move : MethodName := ⟨RX1, "move", "(LMoverHall$Sector;Z)V"⟩
abbrev cX1_moveDoor : ByteArray := prog_1_method_27_code
def yX1_moveDoor : MethodName := ⟨RX1, "moveDoor", "(LMoverHall$Sector;Z)V"⟩
abbrev cX1_closeDoor : ByteArray := prog_1_method_28_code
def yX1_closeDoor : MethodName := ⟨RX1, "closeDoor", "(LMoverHall$Sector;Z)V"⟩
abbrev cX1_moveLift : ByteArray := prog_1_method_29_code
def yX1_moveLift : MethodName := ⟨RX1, "moveLift", "(LMoverHall$Sector;Z)V"⟩
abbrev cX1_raiseFloor : ByteArray := prog_1_method_30_code
def yX1_raiseFloor : MethodName := ⟨RX1, "raiseFloor", "(LMoverHall$Sector;IIZ)V"⟩
def RX2 : String := "MoverHallModel"
def TX2 : u_T := fun k => match k with
  | _ => ("", "", "", false)
def tyX2 : Nat → FieldType := fun k => match k with
  | _ => .int
abbrev wsX20 : List Cond := u_ws RX2 TX2 0
theorem nmX2 : ∀ a, a < 0 → ∀ b, b < 0 → a ≠ b → (TX2 a).2.1 ≠ (TX2 b).2.1 := by decide +kernel
theorem tyX2_ok : ∀ k, k < 0 → parseFieldDescriptor (TX2 k).2.2.1 = some (tyX2 k) := by decide +kernel
def RJ9 : String := "java/lang/Math"
def TJ9 : u_T := fun k => match k with
  | _ => ("", "", "", false)
def tyJ9 : Nat → FieldType := fun k => match k with
  | _ => .int
abbrev wsJ90 : List Cond := u_ws RJ9 TJ9 0
theorem nmJ9 : ∀ a, a < 0 → ∀ b, b < 0 → a ≠ b → (TJ9 a).2.1 ≠ (TJ9 b).2.1 := by decide +kernel
theorem tyJ9_ok : ∀ k, k < 0 → parseFieldDescriptor (TJ9 k).2.2.1 = some (tyJ9 k) := by decide +kernel
abbrev cJ9_max_7cf53 : ByteArray := prog_5_method_65_code
def yJ9_max_7cf53 : MethodName := ⟨RJ9, "max", "(II)I"⟩
abbrev cJ9_min_7cf53 : ByteArray := prog_5_method_69_code
def yJ9_min_7cf53 : MethodName := ⟨RJ9, "min", "(II)I"⟩
def RL : String := "MoverHallLaw"
abbrev cL_law : ByteArray := code
def yL_law : MethodName := ⟨RL, "law", "([I)Z"⟩
def wsX0_init : List Cond := .code yX0_init cX0_init 1 none :: ([.methodLink RX0 3 objectInit, .instanceMethod objectInit, .code objectInit ⟨#[0xb1]⟩ 1 none])
def wsX0_plan : List Cond := .code yX0_plan cX0_plan 6 none :: ([.fieldLink RX0 9 "MoverHall$Sector" "plannedFloor" "I", .fieldLink RX0 15 "MoverHall$Sector" "plannedCeiling" "I", .fieldLink RX0 18 "MoverHall$Sector" "light" "I", .fieldLink RX0 21 "MoverHall$Sector" "kind" "I", .fieldLink RX0 24 "MoverHall$Sector" "tag" "I", .fieldLink RX0 27 "MoverHall$Sector" "neighbours" "I"] ++ wsX00)
def wsX0_dropMover : List Cond := .code yX0_dropMover cX0_dropMover 1 none :: ([.fieldLink RX0 39 "MoverHall$Sector" "mover" "I", .fieldLink RX0 42 "MoverHall$Sector" "wayEnd" "I", .fieldLink RX0 45 "MoverHall$Sector" "way" "I", .fieldLink RX0 48 "MoverHall$Sector" "waitLeft" "I"] ++ wsX00)
def wsX0_goBackToPlan : List Cond := .code yX0_goBackToPlan cX0_goBackToPlan 1 none :: ([.fieldLink RX0 9 "MoverHall$Sector" "plannedFloor" "I", .fieldLink RX0 30 "MoverHall$Sector" "floor" "I", .fieldLink RX0 15 "MoverHall$Sector" "plannedCeiling" "I", .fieldLink RX0 33 "MoverHall$Sector" "ceiling" "I", .methodLink RX0 36 yX0_dropMover, .instanceMethod yX0_dropMover, .selects RX0 yX0_dropMover yX0_dropMover, .initialized RX0, .code yX0_dropMover cX0_dropMover 1 none, .fieldLink RX0 39 "MoverHall$Sector" "mover" "I", .fieldLink RX0 42 "MoverHall$Sector" "wayEnd" "I", .fieldLink RX0 45 "MoverHall$Sector" "way" "I", .fieldLink RX0 48 "MoverHall$Sector" "waitLeft" "I"] ++ wsX00)
def wsX0_hasNeighbour : List Cond := .code yX0_hasNeighbour cX0_hasNeighbour 2 (some .boolean) :: ([.fieldLink RX0 27 "MoverHall$Sector" "neighbours" "I"] ++ wsX00)
def wsX0_hasNeighbours : List Cond := .code yX0_hasNeighbours cX0_hasNeighbours 1 (some .boolean) :: ([.fieldLink RX0 27 "MoverHall$Sector" "neighbours" "I"] ++ wsX00)
def wsX0_addNeighbour : List Cond := .code yX0_addNeighbour cX0_addNeighbour 2 none :: ([.fieldLink RX0 27 "MoverHall$Sector" "neighbours" "I"] ++ wsX00)
def wsX0_go : List Cond := .code yX0_go cX0_go 2 none :: ([.fieldLink RX0 45 "MoverHall$Sector" "way" "I", .fieldLink RX0 48 "MoverHall$Sector" "waitLeft" "I"] ++ wsX00)
def wsX0_waitFor : List Cond := .code yX0_waitFor cX0_waitFor 2 none :: ([.fieldLink RX0 45 "MoverHall$Sector" "way" "I", .fieldLink RX0 48 "MoverHall$Sector" "waitLeft" "I"] ++ wsX00)
def wsX0_waitOneTick : List Cond := .code yX0_waitOneTick cX0_waitOneTick 1 none :: ([.fieldLink RX0 48 "MoverHall$Sector" "waitLeft" "I", .fieldLink RX0 39 "MoverHall$Sector" "mover" "I", .fieldLink RX0 45 "MoverHall$Sector" "way" "I"] ++ wsX00)
def wsX1_init : List Cond := .code yX1_init cX1_init 2 none :: ([.methodLink RX1 1 objectInit, .instanceMethod objectInit, .code objectInit ⟨#[0xb1]⟩ 1 none, .classLink RX1 9 RX0, .fieldLink RX1 11 "MoverHall" "sectors" "[LMoverHall$Sector;", .instantiable RX0 13, .initialized RX0, .fieldLink RX1 16 "MoverHall" "guestSector" "I", .instanceMethod yX0_init, .code yX0_init cX0_init 1 none, .methodLink RX0 3 objectInit] ++ wsX10 ++ wsX00)
def wsX1_isShape : List Cond := .code yX1_isShape cX1_isShape 2 (some .boolean) :: ([])
def wsX1_isWithin : List Cond := .code yX1_isWithin cX1_isWithin 3 (some .boolean) :: ([])
def wsX1_reset : List Cond := .code yX1_reset cX1_reset 2 none :: ([.fieldLink RX1 20 "MoverHall" "sectorCount" "I", .fieldLink RX1 11 "MoverHall" "sectors" "[LMoverHall$Sector;", .fieldLink RX1 55 "MoverHall" "tickCount" "I", .fieldLink RX1 58 "MoverHall" "moverCount" "I", .fieldLink RX1 61 "MoverHall" "blockedCount" "I", .fieldLink RX1 16 "MoverHall" "guestSector" "I", .instanceMethod yX0_goBackToPlan, .initialized RX0, .selects RX0 yX0_goBackToPlan yX0_goBackToPlan, .code yX0_goBackToPlan cX0_goBackToPlan 1 none, .fieldLink RX0 9 "MoverHall$Sector" "plannedFloor" "I", .fieldLink RX0 30 "MoverHall$Sector" "floor" "I", .fieldLink RX0 15 "MoverHall$Sector" "plannedCeiling" "I", .fieldLink RX0 33 "MoverHall$Sector" "ceiling" "I", .methodLink RX0 36 yX0_dropMover, .instanceMethod yX0_dropMover, .selects RX0 yX0_dropMover yX0_dropMover, .code yX0_dropMover cX0_dropMover 1 none, .fieldLink RX0 39 "MoverHall$Sector" "mover" "I", .fieldLink RX0 42 "MoverHall$Sector" "wayEnd" "I", .fieldLink RX0 45 "MoverHall$Sector" "way" "I", .fieldLink RX0 48 "MoverHall$Sector" "waitLeft" "I"] ++ wsX10 ++ wsX00)
def wsX1_sector_r1 : List Cond := [Cond.fieldLink RX1 20 "MoverHall" "sectorCount" "I", Cond.fieldLink RX1 11 "MoverHall" "sectors" "[LMoverHall$Sector;", Cond.methodLink RX1 23 yX1_isShape, Cond.static yX1_isShape, Cond.initialized RX1, Cond.code yX1_isShape cX1_isShape 2 (some .boolean), Cond.methodLink RX1 27 yX1_isWithin, Cond.static yX1_isWithin, Cond.code yX1_isWithin cX1_isWithin 3 (some .boolean), Cond.instanceMethod yX0_plan, Cond.initialized RX0, Cond.selects RX0 yX0_plan yX0_plan, Cond.code yX0_plan cX0_plan 6 none, Cond.fieldLink RX0 9 "MoverHall$Sector" "plannedFloor" "I", Cond.fieldLink RX0 15 "MoverHall$Sector" "plannedCeiling" "I", Cond.fieldLink RX0 18 "MoverHall$Sector" "light" "I", Cond.fieldLink RX0 21 "MoverHall$Sector" "kind" "I", Cond.fieldLink RX0 24 "MoverHall$Sector" "tag" "I", Cond.fieldLink RX0 27 "MoverHall$Sector" "neighbours" "I", Cond.methodLink RX1 35 yX1_reset, Cond.instanceMethod yX1_reset, Cond.selects RX1 yX1_reset yX1_reset, Cond.code yX1_reset cX1_reset 2 none, Cond.fieldLink RX1 55 "MoverHall" "tickCount" "I"]
def wsX1_sector_r2 : List Cond := [Cond.fieldLink RX1 58 "MoverHall" "moverCount" "I", Cond.fieldLink RX1 61 "MoverHall" "blockedCount" "I", Cond.fieldLink RX1 16 "MoverHall" "guestSector" "I", Cond.instanceMethod yX0_goBackToPlan, Cond.selects RX0 yX0_goBackToPlan yX0_goBackToPlan, Cond.code yX0_goBackToPlan cX0_goBackToPlan 1 none, Cond.fieldLink RX0 30 "MoverHall$Sector" "floor" "I", Cond.fieldLink RX0 33 "MoverHall$Sector" "ceiling" "I", Cond.methodLink RX0 36 yX0_dropMover, Cond.instanceMethod yX0_dropMover, Cond.selects RX0 yX0_dropMover yX0_dropMover, Cond.code yX0_dropMover cX0_dropMover 1 none, Cond.fieldLink RX0 39 "MoverHall$Sector" "mover" "I", Cond.fieldLink RX0 42 "MoverHall$Sector" "wayEnd" "I", Cond.fieldLink RX0 45 "MoverHall$Sector" "way" "I", Cond.fieldLink RX0 48 "MoverHall$Sector" "waitLeft" "I"]
def wsX1_sector : List Cond := .code yX1_sector cX1_sector 7 (some .int) :: ((wsX1_sector_r1 ++ wsX1_sector_r2) ++ wsX10 ++ wsX00)
def wsX1_isSector : List Cond := .code yX1_isSector cX1_isSector 2 (some .boolean) :: ([.fieldLink RX1 20 "MoverHall" "sectorCount" "I"] ++ wsX10)
def wsX1_join : List Cond := .code yX1_join cX1_join 3 (some .boolean) :: ([.fieldLink RX1 11 "MoverHall" "sectors" "[LMoverHall$Sector;", .fieldLink RX1 49 "MoverHall" "pairCount" "I", .methodLink RX1 38 yX1_isSector, .instanceMethod yX1_isSector, .selects RX1 yX1_isSector yX1_isSector, .initialized RX1, .code yX1_isSector cX1_isSector 2 (some .boolean), .fieldLink RX1 20 "MoverHall" "sectorCount" "I", .instanceMethod yX0_hasNeighbour, .initialized RX0, .selects RX0 yX0_hasNeighbour yX0_hasNeighbour, .code yX0_hasNeighbour cX0_hasNeighbour 2 (some .boolean), .fieldLink RX0 27 "MoverHall$Sector" "neighbours" "I", .instanceMethod yX0_addNeighbour, .selects RX0 yX0_addNeighbour yX0_addNeighbour, .code yX0_addNeighbour cX0_addNeighbour 2 none] ++ wsX10 ++ wsX00)
def wsX1_clear_r1 : List Cond := [Cond.fieldLink RX1 20 "MoverHall" "sectorCount" "I", Cond.fieldLink RX1 49 "MoverHall" "pairCount" "I", Cond.methodLink RX1 35 yX1_reset, Cond.instanceMethod yX1_reset, Cond.selects RX1 yX1_reset yX1_reset, Cond.initialized RX1, Cond.code yX1_reset cX1_reset 2 none, Cond.fieldLink RX1 11 "MoverHall" "sectors" "[LMoverHall$Sector;", Cond.fieldLink RX1 55 "MoverHall" "tickCount" "I", Cond.fieldLink RX1 58 "MoverHall" "moverCount" "I", Cond.fieldLink RX1 61 "MoverHall" "blockedCount" "I", Cond.fieldLink RX1 16 "MoverHall" "guestSector" "I", Cond.instanceMethod yX0_goBackToPlan, Cond.initialized RX0, Cond.selects RX0 yX0_goBackToPlan yX0_goBackToPlan, Cond.code yX0_goBackToPlan cX0_goBackToPlan 1 none, Cond.fieldLink RX0 9 "MoverHall$Sector" "plannedFloor" "I", Cond.fieldLink RX0 30 "MoverHall$Sector" "floor" "I", Cond.fieldLink RX0 15 "MoverHall$Sector" "plannedCeiling" "I", Cond.fieldLink RX0 33 "MoverHall$Sector" "ceiling" "I", Cond.methodLink RX0 36 yX0_dropMover, Cond.instanceMethod yX0_dropMover, Cond.selects RX0 yX0_dropMover yX0_dropMover, Cond.code yX0_dropMover cX0_dropMover 1 none]
def wsX1_clear_r2 : List Cond := [Cond.fieldLink RX0 39 "MoverHall$Sector" "mover" "I", Cond.fieldLink RX0 42 "MoverHall$Sector" "wayEnd" "I", Cond.fieldLink RX0 45 "MoverHall$Sector" "way" "I", Cond.fieldLink RX0 48 "MoverHall$Sector" "waitLeft" "I"]
def wsX1_clear : List Cond := .code yX1_clear cX1_clear 1 none :: ((wsX1_clear_r1 ++ wsX1_clear_r2) ++ wsX10 ++ wsX00)
def wsX1_isMover : List Cond := .code yX1_isMover cX1_isMover 1 (some .boolean) :: ([.methodLink RX1 27 yX1_isWithin, .static yX1_isWithin, .initialized RX1, .code yX1_isWithin cX1_isWithin 3 (some .boolean)])
def wsX1_lowCeiling : List Cond := .code yX1_lowCeiling cX1_lowCeiling 4 (some .int) :: ([.fieldLink RX1 20 "MoverHall" "sectorCount" "I", .fieldLink RX1 11 "MoverHall" "sectors" "[LMoverHall$Sector;", .methodLink RX1 118 Lib.Math.min.name, .static Lib.Math.min.name, .initialized "java/lang/Math", .code Lib.Math.min.name Lib.Math.min.code 2 (some .int), .instanceMethod yX0_hasNeighbours, .initialized RX0, .selects RX0 yX0_hasNeighbours yX0_hasNeighbours, .code yX0_hasNeighbours cX0_hasNeighbours 1 (some .boolean), .fieldLink RX0 27 "MoverHall$Sector" "neighbours" "I", .instanceMethod yX0_hasNeighbour, .selects RX0 yX0_hasNeighbour yX0_hasNeighbour, .code yX0_hasNeighbour cX0_hasNeighbour 2 (some .boolean)] ++ wsX00 ++ wsX10)
def wsX1_lowFloor : List Cond := .code yX1_lowFloor cX1_lowFloor 4 (some .int) :: ([.fieldLink RX1 20 "MoverHall" "sectorCount" "I", .fieldLink RX1 11 "MoverHall" "sectors" "[LMoverHall$Sector;", .methodLink RX1 118 Lib.Math.min.name, .static Lib.Math.min.name, .initialized "java/lang/Math", .code Lib.Math.min.name Lib.Math.min.code 2 (some .int), .instanceMethod yX0_hasNeighbour, .initialized RX0, .selects RX0 yX0_hasNeighbour yX0_hasNeighbour, .code yX0_hasNeighbour cX0_hasNeighbour 2 (some .boolean), .fieldLink RX0 27 "MoverHall$Sector" "neighbours" "I"] ++ wsX00 ++ wsX10)
def wsX1_highFloor : List Cond := .code yX1_highFloor cX1_highFloor 4 (some .int) :: ([.fieldLink RX1 20 "MoverHall" "sectorCount" "I", .fieldLink RX1 11 "MoverHall" "sectors" "[LMoverHall$Sector;", .methodLink RX1 124 Lib.Math.max.name, .static Lib.Math.max.name, .initialized "java/lang/Math", .code Lib.Math.max.name Lib.Math.max.code 2 (some .int), .instanceMethod yX0_hasNeighbour, .initialized RX0, .selects RX0 yX0_hasNeighbour yX0_hasNeighbour, .code yX0_hasNeighbour cX0_hasNeighbour 2 (some .boolean), .fieldLink RX0 27 "MoverHall$Sector" "neighbours" "I"] ++ wsX00 ++ wsX10)
def wsX1_endOfWay_r1 : List Cond := [Cond.methodLink RX1 124 Lib.Math.max.name, Cond.static Lib.Math.max.name, Cond.initialized "java/lang/Math", Cond.code Lib.Math.max.name Lib.Math.max.code 2 (some .int), Cond.methodLink RX1 118 Lib.Math.min.name, Cond.static Lib.Math.min.name, Cond.code Lib.Math.min.name Lib.Math.min.code 2 (some .int), Cond.methodLink RX1 109 yX1_lowCeiling, Cond.instanceMethod yX1_lowCeiling, Cond.selects RX1 yX1_lowCeiling yX1_lowCeiling, Cond.initialized RX1, Cond.code yX1_lowCeiling cX1_lowCeiling 4 (some .int), Cond.fieldLink RX1 20 "MoverHall" "sectorCount" "I", Cond.fieldLink RX1 11 "MoverHall" "sectors" "[LMoverHall$Sector;", Cond.instanceMethod yX0_hasNeighbours, Cond.initialized RX0, Cond.selects RX0 yX0_hasNeighbours yX0_hasNeighbours, Cond.code yX0_hasNeighbours cX0_hasNeighbours 1 (some .boolean), Cond.fieldLink RX0 27 "MoverHall$Sector" "neighbours" "I", Cond.instanceMethod yX0_hasNeighbour, Cond.selects RX0 yX0_hasNeighbour yX0_hasNeighbour, Cond.code yX0_hasNeighbour cX0_hasNeighbour 2 (some .boolean), Cond.methodLink RX1 103 yX1_lowFloor, Cond.instanceMethod yX1_lowFloor]
def wsX1_endOfWay_r2 : List Cond := [Cond.selects RX1 yX1_lowFloor yX1_lowFloor, Cond.code yX1_lowFloor cX1_lowFloor 4 (some .int), Cond.methodLink RX1 106 yX1_highFloor, Cond.instanceMethod yX1_highFloor, Cond.selects RX1 yX1_highFloor yX1_highFloor, Cond.code yX1_highFloor cX1_highFloor 4 (some .int)]
def wsX1_endOfWay : List Cond := .code yX1_endOfWay cX1_endOfWay 3 (some .int) :: ((wsX1_endOfWay_r1 ++ wsX1_endOfWay_r2) ++ wsX00 ++ wsX10)
def wsX1_start_r1 : List Cond := [Cond.fieldLink RX1 58 "MoverHall" "moverCount" "I", Cond.methodLink RX1 140 yX1_endOfWay, Cond.instanceMethod yX1_endOfWay, Cond.selects RX1 yX1_endOfWay yX1_endOfWay, Cond.initialized RX1, Cond.code yX1_endOfWay cX1_endOfWay 3 (some .int), Cond.methodLink RX1 124 Lib.Math.max.name, Cond.static Lib.Math.max.name, Cond.initialized "java/lang/Math", Cond.code Lib.Math.max.name Lib.Math.max.code 2 (some .int), Cond.methodLink RX1 118 Lib.Math.min.name, Cond.static Lib.Math.min.name, Cond.code Lib.Math.min.name Lib.Math.min.code 2 (some .int), Cond.methodLink RX1 109 yX1_lowCeiling, Cond.instanceMethod yX1_lowCeiling, Cond.selects RX1 yX1_lowCeiling yX1_lowCeiling, Cond.code yX1_lowCeiling cX1_lowCeiling 4 (some .int), Cond.fieldLink RX1 20 "MoverHall" "sectorCount" "I", Cond.fieldLink RX1 11 "MoverHall" "sectors" "[LMoverHall$Sector;", Cond.instanceMethod yX0_hasNeighbours, Cond.initialized RX0, Cond.selects RX0 yX0_hasNeighbours yX0_hasNeighbours, Cond.code yX0_hasNeighbours cX0_hasNeighbours 1 (some .boolean), Cond.fieldLink RX0 27 "MoverHall$Sector" "neighbours" "I"]
def wsX1_start_r2 : List Cond := [Cond.instanceMethod yX0_hasNeighbour, Cond.selects RX0 yX0_hasNeighbour yX0_hasNeighbour, Cond.code yX0_hasNeighbour cX0_hasNeighbour 2 (some .boolean), Cond.methodLink RX1 103 yX1_lowFloor, Cond.instanceMethod yX1_lowFloor, Cond.selects RX1 yX1_lowFloor yX1_lowFloor, Cond.code yX1_lowFloor cX1_lowFloor 4 (some .int), Cond.methodLink RX1 106 yX1_highFloor, Cond.instanceMethod yX1_highFloor, Cond.selects RX1 yX1_highFloor yX1_highFloor, Cond.code yX1_highFloor cX1_highFloor 4 (some .int), Cond.instanceMethod yX0_go, Cond.selects RX0 yX0_go yX0_go, Cond.code yX0_go cX0_go 2 none, Cond.fieldLink RX0 45 "MoverHall$Sector" "way" "I", Cond.fieldLink RX0 48 "MoverHall$Sector" "waitLeft" "I"]
def wsX1_start : List Cond := .code yX1_start cX1_start 3 none :: ((wsX1_start_r1 ++ wsX1_start_r2) ++ wsX00 ++ wsX10)
def wsX1_begin_r1 : List Cond := [Cond.fieldLink RX1 11 "MoverHall" "sectors" "[LMoverHall$Sector;", Cond.methodLink RX1 38 yX1_isSector, Cond.instanceMethod yX1_isSector, Cond.selects RX1 yX1_isSector yX1_isSector, Cond.initialized RX1, Cond.code yX1_isSector cX1_isSector 2 (some .boolean), Cond.fieldLink RX1 20 "MoverHall" "sectorCount" "I", Cond.methodLink RX1 64 yX1_isMover, Cond.static yX1_isMover, Cond.code yX1_isMover cX1_isMover 1 (some .boolean), Cond.methodLink RX1 27 yX1_isWithin, Cond.static yX1_isWithin, Cond.code yX1_isWithin cX1_isWithin 3 (some .boolean), Cond.methodLink RX1 70 yX1_start, Cond.instanceMethod yX1_start, Cond.selects RX1 yX1_start yX1_start, Cond.code yX1_start cX1_start 3 none, Cond.fieldLink RX1 58 "MoverHall" "moverCount" "I", Cond.methodLink RX1 140 yX1_endOfWay, Cond.instanceMethod yX1_endOfWay, Cond.selects RX1 yX1_endOfWay yX1_endOfWay, Cond.code yX1_endOfWay cX1_endOfWay 3 (some .int), Cond.methodLink RX1 124 Lib.Math.max.name, Cond.static Lib.Math.max.name]
def wsX1_begin_r2 : List Cond := [Cond.initialized "java/lang/Math", Cond.code Lib.Math.max.name Lib.Math.max.code 2 (some .int), Cond.methodLink RX1 118 Lib.Math.min.name, Cond.static Lib.Math.min.name, Cond.code Lib.Math.min.name Lib.Math.min.code 2 (some .int), Cond.methodLink RX1 109 yX1_lowCeiling, Cond.instanceMethod yX1_lowCeiling, Cond.selects RX1 yX1_lowCeiling yX1_lowCeiling, Cond.code yX1_lowCeiling cX1_lowCeiling 4 (some .int), Cond.instanceMethod yX0_hasNeighbours, Cond.initialized RX0, Cond.selects RX0 yX0_hasNeighbours yX0_hasNeighbours, Cond.code yX0_hasNeighbours cX0_hasNeighbours 1 (some .boolean), Cond.fieldLink RX0 27 "MoverHall$Sector" "neighbours" "I", Cond.instanceMethod yX0_hasNeighbour, Cond.selects RX0 yX0_hasNeighbour yX0_hasNeighbour, Cond.code yX0_hasNeighbour cX0_hasNeighbour 2 (some .boolean), Cond.methodLink RX1 103 yX1_lowFloor, Cond.instanceMethod yX1_lowFloor, Cond.selects RX1 yX1_lowFloor yX1_lowFloor, Cond.code yX1_lowFloor cX1_lowFloor 4 (some .int), Cond.methodLink RX1 106 yX1_highFloor, Cond.instanceMethod yX1_highFloor, Cond.selects RX1 yX1_highFloor yX1_highFloor]
def wsX1_begin_r3 : List Cond := [Cond.code yX1_highFloor cX1_highFloor 4 (some .int), Cond.instanceMethod yX0_go, Cond.selects RX0 yX0_go yX0_go, Cond.code yX0_go cX0_go 2 none, Cond.fieldLink RX0 45 "MoverHall$Sector" "way" "I", Cond.fieldLink RX0 48 "MoverHall$Sector" "waitLeft" "I"]
def wsX1_begin : List Cond := .code yX1_begin cX1_begin 4 (some .boolean) :: ((wsX1_begin_r1 ++ (wsX1_begin_r2 ++ wsX1_begin_r3)) ++ wsX10 ++ wsX00)
def wsX1_tag_r1 : List Cond := [Cond.fieldLink RX1 20 "MoverHall" "sectorCount" "I", Cond.fieldLink RX1 11 "MoverHall" "sectors" "[LMoverHall$Sector;", Cond.methodLink RX1 27 yX1_isWithin, Cond.static yX1_isWithin, Cond.initialized RX1, Cond.code yX1_isWithin cX1_isWithin 3 (some .boolean), Cond.methodLink RX1 64 yX1_isMover, Cond.static yX1_isMover, Cond.code yX1_isMover cX1_isMover 1 (some .boolean), Cond.methodLink RX1 83 yX1_begin, Cond.instanceMethod yX1_begin, Cond.selects RX1 yX1_begin yX1_begin, Cond.code yX1_begin cX1_begin 4 (some .boolean), Cond.methodLink RX1 38 yX1_isSector, Cond.instanceMethod yX1_isSector, Cond.selects RX1 yX1_isSector yX1_isSector, Cond.code yX1_isSector cX1_isSector 2 (some .boolean), Cond.methodLink RX1 70 yX1_start, Cond.instanceMethod yX1_start, Cond.selects RX1 yX1_start yX1_start, Cond.code yX1_start cX1_start 3 none, Cond.fieldLink RX1 58 "MoverHall" "moverCount" "I", Cond.methodLink RX1 140 yX1_endOfWay, Cond.instanceMethod yX1_endOfWay]
def wsX1_tag_r2 : List Cond := [Cond.selects RX1 yX1_endOfWay yX1_endOfWay, Cond.code yX1_endOfWay cX1_endOfWay 3 (some .int), Cond.methodLink RX1 124 Lib.Math.max.name, Cond.static Lib.Math.max.name, Cond.initialized "java/lang/Math", Cond.code Lib.Math.max.name Lib.Math.max.code 2 (some .int), Cond.methodLink RX1 118 Lib.Math.min.name, Cond.static Lib.Math.min.name, Cond.code Lib.Math.min.name Lib.Math.min.code 2 (some .int), Cond.methodLink RX1 109 yX1_lowCeiling, Cond.instanceMethod yX1_lowCeiling, Cond.selects RX1 yX1_lowCeiling yX1_lowCeiling, Cond.code yX1_lowCeiling cX1_lowCeiling 4 (some .int), Cond.instanceMethod yX0_hasNeighbours, Cond.initialized RX0, Cond.selects RX0 yX0_hasNeighbours yX0_hasNeighbours, Cond.code yX0_hasNeighbours cX0_hasNeighbours 1 (some .boolean), Cond.fieldLink RX0 27 "MoverHall$Sector" "neighbours" "I", Cond.instanceMethod yX0_hasNeighbour, Cond.selects RX0 yX0_hasNeighbour yX0_hasNeighbour, Cond.code yX0_hasNeighbour cX0_hasNeighbour 2 (some .boolean), Cond.methodLink RX1 103 yX1_lowFloor, Cond.instanceMethod yX1_lowFloor, Cond.selects RX1 yX1_lowFloor yX1_lowFloor]
def wsX1_tag_r3 : List Cond := [Cond.code yX1_lowFloor cX1_lowFloor 4 (some .int), Cond.methodLink RX1 106 yX1_highFloor, Cond.instanceMethod yX1_highFloor, Cond.selects RX1 yX1_highFloor yX1_highFloor, Cond.code yX1_highFloor cX1_highFloor 4 (some .int), Cond.instanceMethod yX0_go, Cond.selects RX0 yX0_go yX0_go, Cond.code yX0_go cX0_go 2 none, Cond.fieldLink RX0 45 "MoverHall$Sector" "way" "I", Cond.fieldLink RX0 48 "MoverHall$Sector" "waitLeft" "I"]
def wsX1_tag : List Cond := .code yX1_tag cX1_tag 5 (some .int) :: ((wsX1_tag_r1 ++ (wsX1_tag_r2 ++ wsX1_tag_r3)) ++ wsX10 ++ wsX00)
def wsX1_enter : List Cond := .code yX1_enter cX1_enter 2 (some .boolean) :: ([.fieldLink RX1 16 "MoverHall" "guestSector" "I", .methodLink RX1 38 yX1_isSector, .instanceMethod yX1_isSector, .selects RX1 yX1_isSector yX1_isSector, .initialized RX1, .code yX1_isSector cX1_isSector 2 (some .boolean), .fieldLink RX1 20 "MoverHall" "sectorCount" "I"] ++ wsX10)
def wsX1_finish : List Cond := .code yX1_finish cX1_finish 2 none :: ([.fieldLink RX1 58 "MoverHall" "moverCount" "I", .instanceMethod yX0_dropMover, .initialized RX0, .selects RX0 yX0_dropMover yX0_dropMover, .code yX0_dropMover cX0_dropMover 1 none, .fieldLink RX0 39 "MoverHall$Sector" "mover" "I", .fieldLink RX0 42 "MoverHall$Sector" "wayEnd" "I", .fieldLink RX0 45 "MoverHall$Sector" "way" "I", .fieldLink RX0 48 "MoverHall$Sector" "waitLeft" "I"] ++ wsX10 ++ wsX00)
def wsX1_closeDoor : List Cond := .code yX1_closeDoor cX1_closeDoor 4 none :: ([.methodLink RX1 124 Lib.Math.max.name, .static Lib.Math.max.name, .initialized "java/lang/Math", .code Lib.Math.max.name Lib.Math.max.code 2 (some .int), .fieldLink RX1 61 "MoverHall" "blockedCount" "I", .instanceMethod yX0_go, .initialized RX0, .selects RX0 yX0_go yX0_go, .code yX0_go cX0_go 2 none, .fieldLink RX0 45 "MoverHall$Sector" "way" "I", .fieldLink RX0 48 "MoverHall$Sector" "waitLeft" "I", .methodLink RX1 170 yX1_finish, .instanceMethod yX1_finish, .selects RX1 yX1_finish yX1_finish, .initialized RX1, .code yX1_finish cX1_finish 2 none, .fieldLink RX1 58 "MoverHall" "moverCount" "I", .instanceMethod yX0_dropMover, .selects RX0 yX0_dropMover yX0_dropMover, .code yX0_dropMover cX0_dropMover 1 none, .fieldLink RX0 39 "MoverHall$Sector" "mover" "I", .fieldLink RX0 42 "MoverHall$Sector" "wayEnd" "I"] ++ wsX00 ++ wsX10)
def wsX1_moveDoor_r1 : List Cond := [Cond.methodLink RX1 118 Lib.Math.min.name, Cond.static Lib.Math.min.name, Cond.initialized "java/lang/Math", Cond.code Lib.Math.min.name Lib.Math.min.code 2 (some .int), Cond.methodLink RX1 164 yX1_closeDoor, Cond.instanceMethod yX1_closeDoor, Cond.selects RX1 yX1_closeDoor yX1_closeDoor, Cond.initialized RX1, Cond.code yX1_closeDoor cX1_closeDoor 4 none, Cond.methodLink RX1 124 Lib.Math.max.name, Cond.static Lib.Math.max.name, Cond.code Lib.Math.max.name Lib.Math.max.code 2 (some .int), Cond.fieldLink RX1 61 "MoverHall" "blockedCount" "I", Cond.instanceMethod yX0_go, Cond.initialized RX0, Cond.selects RX0 yX0_go yX0_go, Cond.code yX0_go cX0_go 2 none, Cond.fieldLink RX0 45 "MoverHall$Sector" "way" "I", Cond.fieldLink RX0 48 "MoverHall$Sector" "waitLeft" "I", Cond.methodLink RX1 170 yX1_finish, Cond.instanceMethod yX1_finish, Cond.selects RX1 yX1_finish yX1_finish, Cond.code yX1_finish cX1_finish 2 none, Cond.fieldLink RX1 58 "MoverHall" "moverCount" "I"]
def wsX1_moveDoor_r2 : List Cond := [Cond.instanceMethod yX0_dropMover, Cond.selects RX0 yX0_dropMover yX0_dropMover, Cond.code yX0_dropMover cX0_dropMover 1 none, Cond.fieldLink RX0 39 "MoverHall$Sector" "mover" "I", Cond.fieldLink RX0 42 "MoverHall$Sector" "wayEnd" "I", Cond.instanceMethod yX0_waitFor, Cond.selects RX0 yX0_waitFor yX0_waitFor, Cond.code yX0_waitFor cX0_waitFor 2 none]
def wsX1_moveDoor : List Cond := .code yX1_moveDoor cX1_moveDoor 3 none :: ((wsX1_moveDoor_r1 ++ wsX1_moveDoor_r2) ++ wsX00 ++ wsX10)
def wsX1_raiseFloor : List Cond := .code yX1_raiseFloor cX1_raiseFloor 6 none :: ([.methodLink RX1 118 Lib.Math.min.name, .static Lib.Math.min.name, .initialized "java/lang/Math", .code Lib.Math.min.name Lib.Math.min.code 2 (some .int), .fieldLink RX1 61 "MoverHall" "blockedCount" "I", .methodLink RX1 170 yX1_finish, .instanceMethod yX1_finish, .selects RX1 yX1_finish yX1_finish, .initialized RX1, .code yX1_finish cX1_finish 2 none, .fieldLink RX1 58 "MoverHall" "moverCount" "I", .instanceMethod yX0_dropMover, .initialized RX0, .selects RX0 yX0_dropMover yX0_dropMover, .code yX0_dropMover cX0_dropMover 1 none, .fieldLink RX0 39 "MoverHall$Sector" "mover" "I", .fieldLink RX0 42 "MoverHall$Sector" "wayEnd" "I", .fieldLink RX0 45 "MoverHall$Sector" "way" "I", .fieldLink RX0 48 "MoverHall$Sector" "waitLeft" "I"] ++ wsX00 ++ wsX10)
def wsX1_moveLift_r1 : List Cond := [Cond.methodLink RX1 124 Lib.Math.max.name, Cond.static Lib.Math.max.name, Cond.initialized "java/lang/Math", Cond.code Lib.Math.max.name Lib.Math.max.code 2 (some .int), Cond.methodLink RX1 160 yX1_raiseFloor, Cond.instanceMethod yX1_raiseFloor, Cond.selects RX1 yX1_raiseFloor yX1_raiseFloor, Cond.initialized RX1, Cond.code yX1_raiseFloor cX1_raiseFloor 6 none, Cond.methodLink RX1 118 Lib.Math.min.name, Cond.static Lib.Math.min.name, Cond.code Lib.Math.min.name Lib.Math.min.code 2 (some .int), Cond.fieldLink RX1 61 "MoverHall" "blockedCount" "I", Cond.methodLink RX1 170 yX1_finish, Cond.instanceMethod yX1_finish, Cond.selects RX1 yX1_finish yX1_finish, Cond.code yX1_finish cX1_finish 2 none, Cond.fieldLink RX1 58 "MoverHall" "moverCount" "I", Cond.instanceMethod yX0_dropMover, Cond.initialized RX0, Cond.selects RX0 yX0_dropMover yX0_dropMover, Cond.code yX0_dropMover cX0_dropMover 1 none, Cond.fieldLink RX0 39 "MoverHall$Sector" "mover" "I", Cond.fieldLink RX0 42 "MoverHall$Sector" "wayEnd" "I"]
def wsX1_moveLift_r2 : List Cond := [Cond.fieldLink RX0 45 "MoverHall$Sector" "way" "I", Cond.fieldLink RX0 48 "MoverHall$Sector" "waitLeft" "I", Cond.instanceMethod yX0_waitFor, Cond.selects RX0 yX0_waitFor yX0_waitFor, Cond.code yX0_waitFor cX0_waitFor 2 none]
def wsX1_moveLift : List Cond := .code yX1_moveLift cX1_moveLift 3 none :: ((wsX1_moveLift_r1 ++ wsX1_moveLift_r2) ++ wsX00 ++ wsX10)
def wsX1_move_r1 : List Cond := [Cond.instanceMethod yX0_waitOneTick, Cond.initialized RX0, Cond.selects RX0 yX0_waitOneTick yX0_waitOneTick, Cond.code yX0_waitOneTick cX0_waitOneTick 1 none, Cond.fieldLink RX0 48 "MoverHall$Sector" "waitLeft" "I", Cond.fieldLink RX0 39 "MoverHall$Sector" "mover" "I", Cond.fieldLink RX0 45 "MoverHall$Sector" "way" "I", Cond.methodLink RX1 154 yX1_moveDoor, Cond.instanceMethod yX1_moveDoor, Cond.selects RX1 yX1_moveDoor yX1_moveDoor, Cond.initialized RX1, Cond.code yX1_moveDoor cX1_moveDoor 3 none, Cond.methodLink RX1 118 Lib.Math.min.name, Cond.static Lib.Math.min.name, Cond.initialized "java/lang/Math", Cond.code Lib.Math.min.name Lib.Math.min.code 2 (some .int), Cond.methodLink RX1 164 yX1_closeDoor, Cond.instanceMethod yX1_closeDoor, Cond.selects RX1 yX1_closeDoor yX1_closeDoor, Cond.code yX1_closeDoor cX1_closeDoor 4 none, Cond.methodLink RX1 124 Lib.Math.max.name, Cond.static Lib.Math.max.name, Cond.code Lib.Math.max.name Lib.Math.max.code 2 (some .int), Cond.fieldLink RX1 61 "MoverHall" "blockedCount" "I"]
def wsX1_move_r2 : List Cond := [Cond.instanceMethod yX0_go, Cond.selects RX0 yX0_go yX0_go, Cond.code yX0_go cX0_go 2 none, Cond.methodLink RX1 170 yX1_finish, Cond.instanceMethod yX1_finish, Cond.selects RX1 yX1_finish yX1_finish, Cond.code yX1_finish cX1_finish 2 none, Cond.fieldLink RX1 58 "MoverHall" "moverCount" "I", Cond.instanceMethod yX0_dropMover, Cond.selects RX0 yX0_dropMover yX0_dropMover, Cond.code yX0_dropMover cX0_dropMover 1 none, Cond.fieldLink RX0 42 "MoverHall$Sector" "wayEnd" "I", Cond.instanceMethod yX0_waitFor, Cond.selects RX0 yX0_waitFor yX0_waitFor, Cond.code yX0_waitFor cX0_waitFor 2 none, Cond.methodLink RX1 157 yX1_moveLift, Cond.instanceMethod yX1_moveLift, Cond.selects RX1 yX1_moveLift yX1_moveLift, Cond.code yX1_moveLift cX1_moveLift 3 none, Cond.methodLink RX1 160 yX1_raiseFloor, Cond.instanceMethod yX1_raiseFloor, Cond.selects RX1 yX1_raiseFloor yX1_raiseFloor, Cond.code yX1_raiseFloor cX1_raiseFloor 6 none]
def wsX1_move : List Cond := .code yX1_move cX1_move 3 none :: ((wsX1_move_r1 ++ wsX1_move_r2) ++ wsX00 ++ wsX10)
def wsX1_passOneTick_r1 : List Cond := [Cond.fieldLink RX1 55 "MoverHall" "tickCount" "I", Cond.fieldLink RX1 58 "MoverHall" "moverCount" "I", Cond.fieldLink RX1 20 "MoverHall" "sectorCount" "I", Cond.fieldLink RX1 11 "MoverHall" "sectors" "[LMoverHall$Sector;", Cond.fieldLink RX1 16 "MoverHall" "guestSector" "I", Cond.methodLink RX1 147 yX1_move, Cond.instanceMethod yX1_move, Cond.selects RX1 yX1_move yX1_move, Cond.initialized RX1, Cond.code yX1_move cX1_move 3 none, Cond.instanceMethod yX0_waitOneTick, Cond.initialized RX0, Cond.selects RX0 yX0_waitOneTick yX0_waitOneTick, Cond.code yX0_waitOneTick cX0_waitOneTick 1 none, Cond.fieldLink RX0 48 "MoverHall$Sector" "waitLeft" "I", Cond.fieldLink RX0 39 "MoverHall$Sector" "mover" "I", Cond.fieldLink RX0 45 "MoverHall$Sector" "way" "I", Cond.methodLink RX1 154 yX1_moveDoor, Cond.instanceMethod yX1_moveDoor, Cond.selects RX1 yX1_moveDoor yX1_moveDoor, Cond.code yX1_moveDoor cX1_moveDoor 3 none, Cond.methodLink RX1 118 Lib.Math.min.name, Cond.static Lib.Math.min.name, Cond.initialized "java/lang/Math"]
def wsX1_passOneTick_r2 : List Cond := [Cond.code Lib.Math.min.name Lib.Math.min.code 2 (some .int), Cond.methodLink RX1 164 yX1_closeDoor, Cond.instanceMethod yX1_closeDoor, Cond.selects RX1 yX1_closeDoor yX1_closeDoor, Cond.code yX1_closeDoor cX1_closeDoor 4 none, Cond.methodLink RX1 124 Lib.Math.max.name, Cond.static Lib.Math.max.name, Cond.code Lib.Math.max.name Lib.Math.max.code 2 (some .int), Cond.fieldLink RX1 61 "MoverHall" "blockedCount" "I", Cond.instanceMethod yX0_go, Cond.selects RX0 yX0_go yX0_go, Cond.code yX0_go cX0_go 2 none, Cond.methodLink RX1 170 yX1_finish, Cond.instanceMethod yX1_finish, Cond.selects RX1 yX1_finish yX1_finish, Cond.code yX1_finish cX1_finish 2 none, Cond.instanceMethod yX0_dropMover, Cond.selects RX0 yX0_dropMover yX0_dropMover, Cond.code yX0_dropMover cX0_dropMover 1 none, Cond.fieldLink RX0 42 "MoverHall$Sector" "wayEnd" "I", Cond.instanceMethod yX0_waitFor, Cond.selects RX0 yX0_waitFor yX0_waitFor, Cond.code yX0_waitFor cX0_waitFor 2 none, Cond.methodLink RX1 157 yX1_moveLift]
def wsX1_passOneTick_r3 : List Cond := [Cond.instanceMethod yX1_moveLift, Cond.selects RX1 yX1_moveLift yX1_moveLift, Cond.code yX1_moveLift cX1_moveLift 3 none, Cond.methodLink RX1 160 yX1_raiseFloor, Cond.instanceMethod yX1_raiseFloor, Cond.selects RX1 yX1_raiseFloor yX1_raiseFloor, Cond.code yX1_raiseFloor cX1_raiseFloor 6 none]
def wsX1_passOneTick : List Cond := .code yX1_passOneTick cX1_passOneTick 2 none :: ((wsX1_passOneTick_r1 ++ (wsX1_passOneTick_r2 ++ wsX1_passOneTick_r3)) ++ wsX10 ++ wsX00)
def wsX1_ticks_r1 : List Cond := [Cond.fieldLink RX1 55 "MoverHall" "tickCount" "I", Cond.methodLink RX1 27 yX1_isWithin, Cond.static yX1_isWithin, Cond.initialized RX1, Cond.code yX1_isWithin cX1_isWithin 3 (some .boolean), Cond.methodLink RX1 86 yX1_passOneTick, Cond.instanceMethod yX1_passOneTick, Cond.selects RX1 yX1_passOneTick yX1_passOneTick, Cond.code yX1_passOneTick cX1_passOneTick 2 none, Cond.fieldLink RX1 58 "MoverHall" "moverCount" "I", Cond.fieldLink RX1 20 "MoverHall" "sectorCount" "I", Cond.fieldLink RX1 11 "MoverHall" "sectors" "[LMoverHall$Sector;", Cond.fieldLink RX1 16 "MoverHall" "guestSector" "I", Cond.methodLink RX1 147 yX1_move, Cond.instanceMethod yX1_move, Cond.selects RX1 yX1_move yX1_move, Cond.code yX1_move cX1_move 3 none, Cond.instanceMethod yX0_waitOneTick, Cond.initialized RX0, Cond.selects RX0 yX0_waitOneTick yX0_waitOneTick, Cond.code yX0_waitOneTick cX0_waitOneTick 1 none, Cond.fieldLink RX0 48 "MoverHall$Sector" "waitLeft" "I", Cond.fieldLink RX0 39 "MoverHall$Sector" "mover" "I", Cond.fieldLink RX0 45 "MoverHall$Sector" "way" "I"]
def wsX1_ticks_r2 : List Cond := [Cond.methodLink RX1 154 yX1_moveDoor, Cond.instanceMethod yX1_moveDoor, Cond.selects RX1 yX1_moveDoor yX1_moveDoor, Cond.code yX1_moveDoor cX1_moveDoor 3 none, Cond.methodLink RX1 118 Lib.Math.min.name, Cond.static Lib.Math.min.name, Cond.initialized "java/lang/Math", Cond.code Lib.Math.min.name Lib.Math.min.code 2 (some .int), Cond.methodLink RX1 164 yX1_closeDoor, Cond.instanceMethod yX1_closeDoor, Cond.selects RX1 yX1_closeDoor yX1_closeDoor, Cond.code yX1_closeDoor cX1_closeDoor 4 none, Cond.methodLink RX1 124 Lib.Math.max.name, Cond.static Lib.Math.max.name, Cond.code Lib.Math.max.name Lib.Math.max.code 2 (some .int), Cond.fieldLink RX1 61 "MoverHall" "blockedCount" "I", Cond.instanceMethod yX0_go, Cond.selects RX0 yX0_go yX0_go, Cond.code yX0_go cX0_go 2 none, Cond.methodLink RX1 170 yX1_finish, Cond.instanceMethod yX1_finish, Cond.selects RX1 yX1_finish yX1_finish, Cond.code yX1_finish cX1_finish 2 none, Cond.instanceMethod yX0_dropMover]
def wsX1_ticks_r3 : List Cond := [Cond.selects RX0 yX0_dropMover yX0_dropMover, Cond.code yX0_dropMover cX0_dropMover 1 none, Cond.fieldLink RX0 42 "MoverHall$Sector" "wayEnd" "I", Cond.instanceMethod yX0_waitFor, Cond.selects RX0 yX0_waitFor yX0_waitFor, Cond.code yX0_waitFor cX0_waitFor 2 none, Cond.methodLink RX1 157 yX1_moveLift, Cond.instanceMethod yX1_moveLift, Cond.selects RX1 yX1_moveLift yX1_moveLift, Cond.code yX1_moveLift cX1_moveLift 3 none, Cond.methodLink RX1 160 yX1_raiseFloor, Cond.instanceMethod yX1_raiseFloor, Cond.selects RX1 yX1_raiseFloor yX1_raiseFloor, Cond.code yX1_raiseFloor cX1_raiseFloor 6 none]
def wsX1_ticks : List Cond := .code yX1_ticks cX1_ticks 3 (some .int) :: ((wsX1_ticks_r1 ++ (wsX1_ticks_r2 ++ wsX1_ticks_r3)) ++ wsX10 ++ wsX00)
def wsX1_lightNow : List Cond := .code yX1_lightNow cX1_lightNow 2 (some .int) :: ([.fieldLink RX1 55 "MoverHall" "tickCount" "I", .fieldLink RX1 58 "MoverHall" "moverCount" "I", .methodLink RX1 124 Lib.Math.max.name, .static Lib.Math.max.name, .initialized "java/lang/Math", .code Lib.Math.max.name Lib.Math.max.code 2 (some .int)] ++ wsX00 ++ wsX10)
def wsX1_of_r1 : List Cond := [Cond.constant RX1 89 (100000), Cond.fieldLink RX1 11 "MoverHall" "sectors" "[LMoverHall$Sector;", Cond.methodLink RX1 38 yX1_isSector, Cond.instanceMethod yX1_isSector, Cond.selects RX1 yX1_isSector yX1_isSector, Cond.initialized RX1, Cond.code yX1_isSector cX1_isSector 2 (some .boolean), Cond.fieldLink RX1 20 "MoverHall" "sectorCount" "I", Cond.methodLink RX1 96 yX1_lightNow, Cond.instanceMethod yX1_lightNow, Cond.selects RX1 yX1_lightNow yX1_lightNow, Cond.code yX1_lightNow cX1_lightNow 2 (some .int), Cond.fieldLink RX1 55 "MoverHall" "tickCount" "I", Cond.fieldLink RX1 58 "MoverHall" "moverCount" "I", Cond.methodLink RX1 124 Lib.Math.max.name, Cond.static Lib.Math.max.name, Cond.initialized "java/lang/Math", Cond.code Lib.Math.max.name Lib.Math.max.code 2 (some .int), Cond.methodLink RX1 103 yX1_lowFloor, Cond.instanceMethod yX1_lowFloor, Cond.selects RX1 yX1_lowFloor yX1_lowFloor, Cond.code yX1_lowFloor cX1_lowFloor 4 (some .int), Cond.methodLink RX1 118 Lib.Math.min.name, Cond.static Lib.Math.min.name]
def wsX1_of_r2 : List Cond := [Cond.code Lib.Math.min.name Lib.Math.min.code 2 (some .int), Cond.instanceMethod yX0_hasNeighbour, Cond.initialized RX0, Cond.selects RX0 yX0_hasNeighbour yX0_hasNeighbour, Cond.code yX0_hasNeighbour cX0_hasNeighbour 2 (some .boolean), Cond.fieldLink RX0 27 "MoverHall$Sector" "neighbours" "I", Cond.methodLink RX1 106 yX1_highFloor, Cond.instanceMethod yX1_highFloor, Cond.selects RX1 yX1_highFloor yX1_highFloor, Cond.code yX1_highFloor cX1_highFloor 4 (some .int), Cond.methodLink RX1 109 yX1_lowCeiling, Cond.instanceMethod yX1_lowCeiling, Cond.selects RX1 yX1_lowCeiling yX1_lowCeiling, Cond.code yX1_lowCeiling cX1_lowCeiling 4 (some .int), Cond.instanceMethod yX0_hasNeighbours, Cond.selects RX0 yX0_hasNeighbours yX0_hasNeighbours, Cond.code yX0_hasNeighbours cX0_hasNeighbours 1 (some .boolean)]
def wsX1_of : List Cond := .code yX1_of cX1_of 4 (some .int) :: ((wsX1_of_r1 ++ wsX1_of_r2) ++ wsX10 ++ wsX00)
def wsJ9_max_7cf53 : List Cond := .code yJ9_max_7cf53 cJ9_max_7cf53 2 (some .int) :: ([])
def wsJ9_min_7cf53 : List Cond := .code yJ9_min_7cf53 cJ9_min_7cf53 2 (some .int) :: ([])
def wsL_law_r1 : List Cond := [Cond.classLink RL 7 RX1, Cond.instantiable RX1 7, Cond.initialized RX1, Cond.methodLink RL 9 yX1_init, Cond.instanceMethod yX1_init, Cond.code yX1_init cX1_init 2 none, Cond.methodLink RX1 1 objectInit, Cond.instanceMethod objectInit, Cond.code objectInit ⟨#[0xb1]⟩ 1 none, Cond.classLink RX1 9 RX0, Cond.fieldLink RX1 11 "MoverHall" "sectors" "[LMoverHall$Sector;", Cond.instantiable RX0 13, Cond.initialized RX0, Cond.fieldLink RX1 16 "MoverHall" "guestSector" "I", Cond.instanceMethod yX0_init, Cond.code yX0_init cX0_init 1 none, Cond.methodLink RX0 3 objectInit, Cond.methodLink RL 13 yX1_sector, Cond.instanceMethod yX1_sector, Cond.selects RX1 yX1_sector yX1_sector, Cond.code yX1_sector cX1_sector 7 (some .int), Cond.fieldLink RX1 20 "MoverHall" "sectorCount" "I", Cond.methodLink RX1 23 yX1_isShape, Cond.static yX1_isShape]
def wsL_law_r2 : List Cond := [Cond.code yX1_isShape cX1_isShape 2 (some .boolean), Cond.methodLink RX1 27 yX1_isWithin, Cond.static yX1_isWithin, Cond.code yX1_isWithin cX1_isWithin 3 (some .boolean), Cond.instanceMethod yX0_plan, Cond.selects RX0 yX0_plan yX0_plan, Cond.code yX0_plan cX0_plan 6 none, Cond.fieldLink RX0 9 "MoverHall$Sector" "plannedFloor" "I", Cond.fieldLink RX0 15 "MoverHall$Sector" "plannedCeiling" "I", Cond.fieldLink RX0 18 "MoverHall$Sector" "light" "I", Cond.fieldLink RX0 21 "MoverHall$Sector" "kind" "I", Cond.fieldLink RX0 24 "MoverHall$Sector" "tag" "I", Cond.fieldLink RX0 27 "MoverHall$Sector" "neighbours" "I", Cond.methodLink RX1 35 yX1_reset, Cond.instanceMethod yX1_reset, Cond.selects RX1 yX1_reset yX1_reset, Cond.code yX1_reset cX1_reset 2 none, Cond.fieldLink RX1 55 "MoverHall" "tickCount" "I", Cond.fieldLink RX1 58 "MoverHall" "moverCount" "I", Cond.fieldLink RX1 61 "MoverHall" "blockedCount" "I", Cond.instanceMethod yX0_goBackToPlan, Cond.selects RX0 yX0_goBackToPlan yX0_goBackToPlan, Cond.code yX0_goBackToPlan cX0_goBackToPlan 1 none, Cond.fieldLink RX0 30 "MoverHall$Sector" "floor" "I"]
def wsL_law_r3 : List Cond := [Cond.fieldLink RX0 33 "MoverHall$Sector" "ceiling" "I", Cond.methodLink RX0 36 yX0_dropMover, Cond.instanceMethod yX0_dropMover, Cond.selects RX0 yX0_dropMover yX0_dropMover, Cond.code yX0_dropMover cX0_dropMover 1 none, Cond.fieldLink RX0 39 "MoverHall$Sector" "mover" "I", Cond.fieldLink RX0 42 "MoverHall$Sector" "wayEnd" "I", Cond.fieldLink RX0 45 "MoverHall$Sector" "way" "I", Cond.fieldLink RX0 48 "MoverHall$Sector" "waitLeft" "I", Cond.methodLink RL 18 yX1_join, Cond.instanceMethod yX1_join, Cond.selects RX1 yX1_join yX1_join, Cond.code yX1_join cX1_join 3 (some .boolean), Cond.fieldLink RX1 49 "MoverHall" "pairCount" "I", Cond.methodLink RX1 38 yX1_isSector, Cond.instanceMethod yX1_isSector, Cond.selects RX1 yX1_isSector yX1_isSector, Cond.code yX1_isSector cX1_isSector 2 (some .boolean), Cond.instanceMethod yX0_hasNeighbour, Cond.selects RX0 yX0_hasNeighbour yX0_hasNeighbour, Cond.code yX0_hasNeighbour cX0_hasNeighbour 2 (some .boolean), Cond.instanceMethod yX0_addNeighbour, Cond.selects RX0 yX0_addNeighbour yX0_addNeighbour, Cond.code yX0_addNeighbour cX0_addNeighbour 2 none]
def wsL_law_r4 : List Cond := [Cond.methodLink RL 23 yX1_reset, Cond.methodLink RL 27 yX1_clear, Cond.instanceMethod yX1_clear, Cond.selects RX1 yX1_clear yX1_clear, Cond.code yX1_clear cX1_clear 1 none, Cond.methodLink RL 31 yX1_begin, Cond.instanceMethod yX1_begin, Cond.selects RX1 yX1_begin yX1_begin, Cond.code yX1_begin cX1_begin 4 (some .boolean), Cond.methodLink RX1 64 yX1_isMover, Cond.static yX1_isMover, Cond.code yX1_isMover cX1_isMover 1 (some .boolean), Cond.methodLink RX1 70 yX1_start, Cond.instanceMethod yX1_start, Cond.selects RX1 yX1_start yX1_start, Cond.code yX1_start cX1_start 3 none, Cond.methodLink RX1 140 yX1_endOfWay, Cond.instanceMethod yX1_endOfWay, Cond.selects RX1 yX1_endOfWay yX1_endOfWay, Cond.code yX1_endOfWay cX1_endOfWay 3 (some .int), Cond.methodLink RX1 124 Lib.Math.max.name, Cond.static Lib.Math.max.name, Cond.initialized "java/lang/Math", Cond.code Lib.Math.max.name Lib.Math.max.code 2 (some .int)]
def wsL_law_r5 : List Cond := [Cond.methodLink RX1 118 Lib.Math.min.name, Cond.static Lib.Math.min.name, Cond.code Lib.Math.min.name Lib.Math.min.code 2 (some .int), Cond.methodLink RX1 109 yX1_lowCeiling, Cond.instanceMethod yX1_lowCeiling, Cond.selects RX1 yX1_lowCeiling yX1_lowCeiling, Cond.code yX1_lowCeiling cX1_lowCeiling 4 (some .int), Cond.instanceMethod yX0_hasNeighbours, Cond.selects RX0 yX0_hasNeighbours yX0_hasNeighbours, Cond.code yX0_hasNeighbours cX0_hasNeighbours 1 (some .boolean), Cond.methodLink RX1 103 yX1_lowFloor, Cond.instanceMethod yX1_lowFloor, Cond.selects RX1 yX1_lowFloor yX1_lowFloor, Cond.code yX1_lowFloor cX1_lowFloor 4 (some .int), Cond.methodLink RX1 106 yX1_highFloor, Cond.instanceMethod yX1_highFloor, Cond.selects RX1 yX1_highFloor yX1_highFloor, Cond.code yX1_highFloor cX1_highFloor 4 (some .int), Cond.instanceMethod yX0_go, Cond.selects RX0 yX0_go yX0_go, Cond.code yX0_go cX0_go 2 none, Cond.methodLink RL 35 yX1_tag, Cond.instanceMethod yX1_tag, Cond.selects RX1 yX1_tag yX1_tag]
def wsL_law_r6 : List Cond := [Cond.code yX1_tag cX1_tag 5 (some .int), Cond.methodLink RX1 83 yX1_begin, Cond.methodLink RL 40 yX1_enter, Cond.instanceMethod yX1_enter, Cond.selects RX1 yX1_enter yX1_enter, Cond.code yX1_enter cX1_enter 2 (some .boolean), Cond.methodLink RL 45 yX1_ticks, Cond.instanceMethod yX1_ticks, Cond.selects RX1 yX1_ticks yX1_ticks, Cond.code yX1_ticks cX1_ticks 3 (some .int), Cond.methodLink RX1 86 yX1_passOneTick, Cond.instanceMethod yX1_passOneTick, Cond.selects RX1 yX1_passOneTick yX1_passOneTick, Cond.code yX1_passOneTick cX1_passOneTick 2 none, Cond.methodLink RX1 147 yX1_move, Cond.instanceMethod yX1_move, Cond.selects RX1 yX1_move yX1_move, Cond.code yX1_move cX1_move 3 none, Cond.instanceMethod yX0_waitOneTick, Cond.selects RX0 yX0_waitOneTick yX0_waitOneTick, Cond.code yX0_waitOneTick cX0_waitOneTick 1 none, Cond.methodLink RX1 154 yX1_moveDoor, Cond.instanceMethod yX1_moveDoor, Cond.selects RX1 yX1_moveDoor yX1_moveDoor]
def wsL_law_r7 : List Cond := [Cond.code yX1_moveDoor cX1_moveDoor 3 none, Cond.methodLink RX1 164 yX1_closeDoor, Cond.instanceMethod yX1_closeDoor, Cond.selects RX1 yX1_closeDoor yX1_closeDoor, Cond.code yX1_closeDoor cX1_closeDoor 4 none, Cond.methodLink RX1 170 yX1_finish, Cond.instanceMethod yX1_finish, Cond.selects RX1 yX1_finish yX1_finish, Cond.code yX1_finish cX1_finish 2 none, Cond.instanceMethod yX0_waitFor, Cond.selects RX0 yX0_waitFor yX0_waitFor, Cond.code yX0_waitFor cX0_waitFor 2 none, Cond.methodLink RX1 157 yX1_moveLift, Cond.instanceMethod yX1_moveLift, Cond.selects RX1 yX1_moveLift yX1_moveLift, Cond.code yX1_moveLift cX1_moveLift 3 none, Cond.methodLink RX1 160 yX1_raiseFloor, Cond.instanceMethod yX1_raiseFloor, Cond.selects RX1 yX1_raiseFloor yX1_raiseFloor, Cond.code yX1_raiseFloor cX1_raiseFloor 6 none, Cond.methodLink RL 50 yX1_of, Cond.instanceMethod yX1_of, Cond.selects RX1 yX1_of yX1_of, Cond.code yX1_of cX1_of 4 (some .int)]
def wsL_law_r8 : List Cond := [Cond.constant RX1 89 (100000), Cond.methodLink RX1 96 yX1_lightNow, Cond.instanceMethod yX1_lightNow, Cond.selects RX1 yX1_lightNow yX1_lightNow, Cond.code yX1_lightNow cX1_lightNow 2 (some .int)]
def wsL_law : List Cond := (wsL_law_r1 ++ (wsL_law_r2 ++ (wsL_law_r3 ++ (wsL_law_r4 ++ (wsL_law_r5 ++ (wsL_law_r6 ++ (wsL_law_r7 ++ wsL_law_r8))))))) ++ wsX10 ++ wsX00 ++ ([] : List Cond)
set_option maxRecDepth 20000 in
theorem wsL_law_in : ∀ w ∈ wsL_law, w ∈ lw_tbl := fun w h => (goodIn_p wsL_law [43, 46, 52, 128, 131, 134, 138, 142, 146, 150, 154, 158, 162, 166, 171, 175, 178, 182, 186, 200, 197, 190, 194, 204, 208, 212, 216, 221, 225, 229, 233, 237, 241, 245, 249, 254, 258, 262, 266, 271] (by decide +kernel) (by decide +kernel) w h).1
theorem inlX0 : ∀ w ∈ wsX00, w ∈ wsL_law := fun _ h => List.mem_append_left _ (List.mem_append_right _ h)
theorem inX0 : ∀ w ∈ wsX00, w ∈ lw_tbl := fun w h => wsL_law_in w (inlX0 w h)
theorem inlX1 : ∀ w ∈ wsX10, w ∈ wsL_law := fun _ h => List.mem_append_left _ (List.mem_append_left _ (List.mem_append_right _ h))
theorem inX1 : ∀ w ∈ wsX10, w ∈ lw_tbl := fun w h => wsL_law_in w (inlX1 w h)
theorem inX2 : ∀ w ∈ wsX20, w ∈ lw_tbl := by decide +kernel
theorem inJ9 : ∀ w ∈ wsJ90, w ∈ lw_tbl := by decide +kernel
theorem dX0_init_0 : decode cX0_init 0 = .ok (.aload_n 0, 1) := by decide +kernel
theorem dX0_init_1 : decode cX0_init 1 = .ok (.invokespecial 3, 3) := by decide +kernel
theorem dX0_init_4 : decode cX0_init 4 = .ok (.return_, 1) := by decide +kernel
theorem dX0_plan_0 : decode cX0_plan 0 = .ok (.aload_n 0, 1) := by decide +kernel
theorem dX0_plan_1 : decode cX0_plan 1 = .ok (.iload_n 1, 1) := by decide +kernel
theorem dX0_plan_2 : decode cX0_plan 2 = .ok (.putfield 9, 3) := by decide +kernel
theorem dX0_plan_5 : decode cX0_plan 5 = .ok (.aload_n 0, 1) := by decide +kernel
theorem dX0_plan_6 : decode cX0_plan 6 = .ok (.iload_n 2, 1) := by decide +kernel
theorem dX0_plan_7 : decode cX0_plan 7 = .ok (.putfield 15, 3) := by decide +kernel
theorem dX0_plan_10 : decode cX0_plan 10 = .ok (.aload_n 0, 1) := by decide +kernel
theorem dX0_plan_11 : decode cX0_plan 11 = .ok (.iload_n 3, 1) := by decide +kernel
theorem dX0_plan_12 : decode cX0_plan 12 = .ok (.putfield 18, 3) := by decide +kernel
theorem dX0_plan_15 : decode cX0_plan 15 = .ok (.aload_n 0, 1) := by decide +kernel
theorem dX0_plan_16 : decode cX0_plan 16 = .ok (.iload 4, 2) := by decide +kernel
theorem dX0_plan_18 : decode cX0_plan 18 = .ok (.putfield 21, 3) := by decide +kernel
theorem dX0_plan_21 : decode cX0_plan 21 = .ok (.aload_n 0, 1) := by decide +kernel
theorem dX0_plan_22 : decode cX0_plan 22 = .ok (.iload 5, 2) := by decide +kernel
theorem dX0_plan_24 : decode cX0_plan 24 = .ok (.putfield 24, 3) := by decide +kernel
theorem dX0_plan_27 : decode cX0_plan 27 = .ok (.aload_n 0, 1) := by decide +kernel
theorem dX0_plan_28 : decode cX0_plan 28 = .ok (.iconst 0, 1) := by decide +kernel
theorem dX0_plan_29 : decode cX0_plan 29 = .ok (.putfield 27, 3) := by decide +kernel
theorem dX0_plan_32 : decode cX0_plan 32 = .ok (.return_, 1) := by decide +kernel
set_option maxRecDepth 20000 in
theorem ggX0_goBackToPlan_X0_dropMover : GoodIn wsX0_goBackToPlan wsX0_dropMover := goodIn_r _ [9, 10, 11, 12, 13, 14, 15, 16, 17, 18, 19, 20, 21, 22, 23, 24, 25, 26] (by decide +kernel) (by decide +kernel)
set_option maxRecDepth 20000 in
theorem gX0_goBackToPlan_X0_dropMover : GoodIn wsX0_goBackToPlan (wsV RX0 36 RX0 yX0_dropMover wsX0_dropMover) := goodIn_app (goodIn_of _ (by decide +kernel)) ggX0_goBackToPlan_X0_dropMover
theorem dX0_goBackToPlan_0 : decode cX0_goBackToPlan 0 = .ok (.aload_n 0, 1) := by decide +kernel
theorem dX0_goBackToPlan_1 : decode cX0_goBackToPlan 1 = .ok (.aload_n 0, 1) := by decide +kernel
theorem dX0_goBackToPlan_2 : decode cX0_goBackToPlan 2 = .ok (.getfield 9, 3) := by decide +kernel
theorem dX0_goBackToPlan_5 : decode cX0_goBackToPlan 5 = .ok (.putfield 30, 3) := by decide +kernel
theorem dX0_goBackToPlan_8 : decode cX0_goBackToPlan 8 = .ok (.aload_n 0, 1) := by decide +kernel
theorem dX0_goBackToPlan_9 : decode cX0_goBackToPlan 9 = .ok (.aload_n 0, 1) := by decide +kernel
theorem dX0_goBackToPlan_10 : decode cX0_goBackToPlan 10 = .ok (.getfield 15, 3) := by decide +kernel
theorem dX0_goBackToPlan_13 : decode cX0_goBackToPlan 13 = .ok (.putfield 33, 3) := by decide +kernel
theorem dX0_goBackToPlan_16 : decode cX0_goBackToPlan 16 = .ok (.aload_n 0, 1) := by decide +kernel
theorem dX0_goBackToPlan_17 : decode cX0_goBackToPlan 17 = .ok (.invokevirtual 36, 3) := by decide +kernel
theorem dX0_goBackToPlan_20 : decode cX0_goBackToPlan 20 = .ok (.return_, 1) := by decide +kernel
theorem dX0_dropMover_0 : decode cX0_dropMover 0 = .ok (.aload_n 0, 1) := by decide +kernel
theorem dX0_dropMover_1 : decode cX0_dropMover 1 = .ok (.iconst (-1), 1) := by decide +kernel
theorem dX0_dropMover_2 : decode cX0_dropMover 2 = .ok (.putfield 39, 3) := by decide +kernel
theorem dX0_dropMover_5 : decode cX0_dropMover 5 = .ok (.aload_n 0, 1) := by decide +kernel
theorem dX0_dropMover_6 : decode cX0_dropMover 6 = .ok (.iconst (-1), 1) := by decide +kernel
theorem dX0_dropMover_7 : decode cX0_dropMover 7 = .ok (.putfield 42, 3) := by decide +kernel
theorem dX0_dropMover_10 : decode cX0_dropMover 10 = .ok (.aload_n 0, 1) := by decide +kernel
theorem dX0_dropMover_11 : decode cX0_dropMover 11 = .ok (.iconst 0, 1) := by decide +kernel
theorem dX0_dropMover_12 : decode cX0_dropMover 12 = .ok (.putfield 45, 3) := by decide +kernel
theorem dX0_dropMover_15 : decode cX0_dropMover 15 = .ok (.aload_n 0, 1) := by decide +kernel
theorem dX0_dropMover_16 : decode cX0_dropMover 16 = .ok (.iconst 0, 1) := by decide +kernel
theorem dX0_dropMover_17 : decode cX0_dropMover 17 = .ok (.putfield 48, 3) := by decide +kernel
theorem dX0_dropMover_20 : decode cX0_dropMover 20 = .ok (.return_, 1) := by decide +kernel
theorem dX0_hasNeighbour_0 : decode cX0_hasNeighbour 0 = .ok (.aload_n 0, 1) := by decide +kernel
theorem dX0_hasNeighbour_1 : decode cX0_hasNeighbour 1 = .ok (.getfield 27, 3) := by decide +kernel
theorem dX0_hasNeighbour_4 : decode cX0_hasNeighbour 4 = .ok (.iload_n 1, 1) := by decide +kernel
theorem dX0_hasNeighbour_5 : decode cX0_hasNeighbour 5 = .ok (.iushr, 1) := by decide +kernel
theorem dX0_hasNeighbour_6 : decode cX0_hasNeighbour 6 = .ok (.iconst 1, 1) := by decide +kernel
theorem dX0_hasNeighbour_7 : decode cX0_hasNeighbour 7 = .ok (.iand, 1) := by decide +kernel
theorem dX0_hasNeighbour_8 : decode cX0_hasNeighbour 8 = .ok (.ifCond .eq 7, 3) := by decide +kernel
theorem dX0_hasNeighbour_11 : decode cX0_hasNeighbour 11 = .ok (.iconst 1, 1) := by decide +kernel
theorem dX0_hasNeighbour_12 : decode cX0_hasNeighbour 12 = .ok (.goto 4, 3) := by decide +kernel
theorem dX0_hasNeighbour_15 : decode cX0_hasNeighbour 15 = .ok (.iconst 0, 1) := by decide +kernel
theorem dX0_hasNeighbour_16 : decode cX0_hasNeighbour 16 = .ok (.ireturn, 1) := by decide +kernel
theorem dX0_hasNeighbours_0 : decode cX0_hasNeighbours 0 = .ok (.aload_n 0, 1) := by decide +kernel
theorem dX0_hasNeighbours_1 : decode cX0_hasNeighbours 1 = .ok (.getfield 27, 3) := by decide +kernel
theorem dX0_hasNeighbours_4 : decode cX0_hasNeighbours 4 = .ok (.ifCond .eq 7, 3) := by decide +kernel
theorem dX0_hasNeighbours_7 : decode cX0_hasNeighbours 7 = .ok (.iconst 1, 1) := by decide +kernel
theorem dX0_hasNeighbours_8 : decode cX0_hasNeighbours 8 = .ok (.goto 4, 3) := by decide +kernel
theorem dX0_hasNeighbours_11 : decode cX0_hasNeighbours 11 = .ok (.iconst 0, 1) := by decide +kernel
theorem dX0_hasNeighbours_12 : decode cX0_hasNeighbours 12 = .ok (.ireturn, 1) := by decide +kernel
theorem dX0_addNeighbour_0 : decode cX0_addNeighbour 0 = .ok (.aload_n 0, 1) := by decide +kernel
theorem dX0_addNeighbour_1 : decode cX0_addNeighbour 1 = .ok (.dup, 1) := by decide +kernel
theorem dX0_addNeighbour_2 : decode cX0_addNeighbour 2 = .ok (.getfield 27, 3) := by decide +kernel
theorem dX0_addNeighbour_5 : decode cX0_addNeighbour 5 = .ok (.iconst 1, 1) := by decide +kernel
theorem dX0_addNeighbour_6 : decode cX0_addNeighbour 6 = .ok (.iload_n 1, 1) := by decide +kernel
theorem dX0_addNeighbour_7 : decode cX0_addNeighbour 7 = .ok (.ishl, 1) := by decide +kernel
theorem dX0_addNeighbour_8 : decode cX0_addNeighbour 8 = .ok (.ior, 1) := by decide +kernel
theorem dX0_addNeighbour_9 : decode cX0_addNeighbour 9 = .ok (.putfield 27, 3) := by decide +kernel
theorem dX0_addNeighbour_12 : decode cX0_addNeighbour 12 = .ok (.return_, 1) := by decide +kernel
theorem dX0_go_0 : decode cX0_go 0 = .ok (.aload_n 0, 1) := by decide +kernel
theorem dX0_go_1 : decode cX0_go 1 = .ok (.iload_n 1, 1) := by decide +kernel
theorem dX0_go_2 : decode cX0_go 2 = .ok (.putfield 45, 3) := by decide +kernel
theorem dX0_go_5 : decode cX0_go 5 = .ok (.aload_n 0, 1) := by decide +kernel
theorem dX0_go_6 : decode cX0_go 6 = .ok (.iconst 0, 1) := by decide +kernel
theorem dX0_go_7 : decode cX0_go 7 = .ok (.putfield 48, 3) := by decide +kernel
theorem dX0_go_10 : decode cX0_go 10 = .ok (.return_, 1) := by decide +kernel
theorem dX0_waitFor_0 : decode cX0_waitFor 0 = .ok (.aload_n 0, 1) := by decide +kernel
theorem dX0_waitFor_1 : decode cX0_waitFor 1 = .ok (.iconst 0, 1) := by decide +kernel
theorem dX0_waitFor_2 : decode cX0_waitFor 2 = .ok (.putfield 45, 3) := by decide +kernel
theorem dX0_waitFor_5 : decode cX0_waitFor 5 = .ok (.aload_n 0, 1) := by decide +kernel
theorem dX0_waitFor_6 : decode cX0_waitFor 6 = .ok (.iload_n 1, 1) := by decide +kernel
theorem dX0_waitFor_7 : decode cX0_waitFor 7 = .ok (.putfield 48, 3) := by decide +kernel
theorem dX0_waitFor_10 : decode cX0_waitFor 10 = .ok (.return_, 1) := by decide +kernel
theorem dX0_waitOneTick_0 : decode cX0_waitOneTick 0 = .ok (.aload_n 0, 1) := by decide +kernel
theorem dX0_waitOneTick_1 : decode cX0_waitOneTick 1 = .ok (.dup, 1) := by decide +kernel
theorem dX0_waitOneTick_2 : decode cX0_waitOneTick 2 = .ok (.getfield 48, 3) := by decide +kernel
theorem dX0_waitOneTick_5 : decode cX0_waitOneTick 5 = .ok (.iconst 1, 1) := by decide +kernel
theorem dX0_waitOneTick_6 : decode cX0_waitOneTick 6 = .ok (.isub, 1) := by decide +kernel
theorem dX0_waitOneTick_7 : decode cX0_waitOneTick 7 = .ok (.putfield 48, 3) := by decide +kernel
theorem dX0_waitOneTick_10 : decode cX0_waitOneTick 10 = .ok (.aload_n 0, 1) := by decide +kernel
theorem dX0_waitOneTick_11 : decode cX0_waitOneTick 11 = .ok (.getfield 48, 3) := by decide +kernel
theorem dX0_waitOneTick_14 : decode cX0_waitOneTick 14 = .ok (.ifCond .ne 19, 3) := by decide +kernel
theorem dX0_waitOneTick_17 : decode cX0_waitOneTick 17 = .ok (.aload_n 0, 1) := by decide +kernel
theorem dX0_waitOneTick_18 : decode cX0_waitOneTick 18 = .ok (.aload_n 0, 1) := by decide +kernel
theorem dX0_waitOneTick_19 : decode cX0_waitOneTick 19 = .ok (.getfield 39, 3) := by decide +kernel
theorem dX0_waitOneTick_22 : decode cX0_waitOneTick 22 = .ok (.ifCond .ne 7, 3) := by decide +kernel
theorem dX0_waitOneTick_25 : decode cX0_waitOneTick 25 = .ok (.iconst (-1), 1) := by decide +kernel
theorem dX0_waitOneTick_26 : decode cX0_waitOneTick 26 = .ok (.goto 4, 3) := by decide +kernel
theorem dX0_waitOneTick_29 : decode cX0_waitOneTick 29 = .ok (.iconst 1, 1) := by decide +kernel
theorem dX0_waitOneTick_30 : decode cX0_waitOneTick 30 = .ok (.putfield 45, 3) := by decide +kernel
theorem dX0_waitOneTick_33 : decode cX0_waitOneTick 33 = .ok (.return_, 1) := by decide +kernel
set_option maxRecDepth 20000 in
theorem ggX1_init_X0_init : GoodIn wsX1_init wsX0_init := goodIn_r _ [10, 11, 2, 3] (by decide +kernel) (by decide +kernel)
set_option maxRecDepth 20000 in
theorem gX1_init_X0_init_n15 : GoodIn wsX1_init (wsX0_init) := ggX1_init_X0_init
theorem dX1_init_0 : decode cX1_init 0 = .ok (.aload_n 0, 1) := by decide +kernel
theorem dX1_init_1 : decode cX1_init 1 = .ok (.invokespecial 1, 3) := by decide +kernel
theorem dX1_init_4 : decode cX1_init 4 = .ok (.aload_n 0, 1) := by decide +kernel
theorem dX1_init_5 : decode cX1_init 5 = .ok (.bipush 32, 2) := by decide +kernel
theorem dX1_init_7 : decode cX1_init 7 = .ok (.anewarray 9, 3) := by decide +kernel
theorem dX1_init_10 : decode cX1_init 10 = .ok (.putfield 11, 3) := by decide +kernel
theorem dX1_init_13 : decode cX1_init 13 = .ok (.iconst 0, 1) := by decide +kernel
theorem dX1_init_14 : decode cX1_init 14 = .ok (.istore_n 1, 1) := by decide +kernel
theorem dX1_init_15 : decode cX1_init 15 = .ok (.iload_n 1, 1) := by decide +kernel
theorem dX1_init_16 : decode cX1_init 16 = .ok (.bipush 32, 2) := by decide +kernel
theorem dX1_init_18 : decode cX1_init 18 = .ok (.if_icmp .ge 22, 3) := by decide +kernel
theorem dX1_init_21 : decode cX1_init 21 = .ok (.aload_n 0, 1) := by decide +kernel
theorem dX1_init_22 : decode cX1_init 22 = .ok (.getfield 11, 3) := by decide +kernel
theorem dX1_init_25 : decode cX1_init 25 = .ok (.iload_n 1, 1) := by decide +kernel
theorem dX1_init_26 : decode cX1_init 26 = .ok (.new 9, 3) := by decide +kernel
theorem dX1_init_29 : decode cX1_init 29 = .ok (.dup, 1) := by decide +kernel
theorem dX1_init_30 : decode cX1_init 30 = .ok (.invokespecial 15, 3) := by decide +kernel
theorem dX1_init_33 : decode cX1_init 33 = .ok (.aastore, 1) := by decide +kernel
theorem dX1_init_34 : decode cX1_init 34 = .ok (.iinc 1 1, 3) := by decide +kernel
theorem dX1_init_37 : decode cX1_init 37 = .ok (.goto (-22), 3) := by decide +kernel
theorem dX1_init_40 : decode cX1_init 40 = .ok (.aload_n 0, 1) := by decide +kernel
theorem dX1_init_41 : decode cX1_init 41 = .ok (.iconst (-1), 1) := by decide +kernel
theorem dX1_init_42 : decode cX1_init 42 = .ok (.putfield 16, 3) := by decide +kernel
theorem dX1_init_45 : decode cX1_init 45 = .ok (.return_, 1) := by decide +kernel
set_option maxRecDepth 20000 in
theorem ggX1_sector_X1_isShape : GoodIn wsX1_sector wsX1_isShape := goodIn_r _ [6] (by decide +kernel) (by decide +kernel)
set_option maxRecDepth 20000 in
theorem gX1_sector_X1_isShape : GoodIn wsX1_sector (va_wsS RX1 23 yX1_isShape wsX1_isShape) := goodIn_app (goodIn_of _ (by decide +kernel)) ggX1_sector_X1_isShape
set_option maxRecDepth 20000 in
theorem ggX1_sector_X1_isWithin : GoodIn wsX1_sector wsX1_isWithin := goodIn_r _ [9] (by decide +kernel) (by decide +kernel)
set_option maxRecDepth 20000 in
theorem gX1_sector_X1_isWithin : GoodIn wsX1_sector (va_wsS RX1 27 yX1_isWithin wsX1_isWithin) := goodIn_app (goodIn_of _ (by decide +kernel)) ggX1_sector_X1_isWithin
set_option maxRecDepth 20000 in
theorem ggX1_sector_X0_plan : GoodIn wsX1_sector wsX0_plan := goodIn_r _ [13, 14, 15, 16, 17, 18, 19, 48, 49, 50, 51, 52, 53, 54, 55, 56, 57, 58, 59, 60] (by decide +kernel) (by decide +kernel)
set_option maxRecDepth 20000 in
theorem gX1_sector_X0_plan_n31 : GoodIn wsX1_sector (wsX0_plan) := ggX1_sector_X0_plan
set_option maxRecDepth 20000 in
theorem ggX1_sector_X1_reset : GoodIn wsX1_sector wsX1_reset := goodIn_r _ [23, 1, 2, 24, 25, 26, 27, 28, 11, 29, 30, 14, 31, 15, 32, 33, 34, 35, 36, 37, 38, 39, 40, 41, 42, 43, 44, 45, 46, 47, 48, 49, 50, 51, 52, 53, 54, 55, 56, 57, 58, 59, 60] (by decide +kernel) (by decide +kernel)
set_option maxRecDepth 20000 in
theorem gX1_sector_X1_reset : GoodIn wsX1_sector (wsV RX1 35 RX1 yX1_reset wsX1_reset) := goodIn_app (goodIn_of _ (by decide +kernel)) ggX1_sector_X1_reset
theorem dX1_sector_0 : decode cX1_sector 0 = .ok (.aload_n 0, 1) := by decide +kernel
theorem dX1_sector_1 : decode cX1_sector 1 = .ok (.getfield 20, 3) := by decide +kernel
theorem dX1_sector_4 : decode cX1_sector 4 = .ok (.bipush 32, 2) := by decide +kernel
theorem dX1_sector_6 : decode cX1_sector 6 = .ok (.if_icmp .ge 43, 3) := by decide +kernel
theorem dX1_sector_9 : decode cX1_sector 9 = .ok (.iload_n 1, 1) := by decide +kernel
theorem dX1_sector_10 : decode cX1_sector 10 = .ok (.iload_n 2, 1) := by decide +kernel
theorem dX1_sector_11 : decode cX1_sector 11 = .ok (.invokestatic 23, 3) := by decide +kernel
theorem dX1_sector_14 : decode cX1_sector 14 = .ok (.ifCond .eq 35, 3) := by decide +kernel
theorem dX1_sector_17 : decode cX1_sector 17 = .ok (.iload_n 3, 1) := by decide +kernel
theorem dX1_sector_18 : decode cX1_sector 18 = .ok (.iconst 0, 1) := by decide +kernel
theorem dX1_sector_19 : decode cX1_sector 19 = .ok (.bipush 15, 2) := by decide +kernel
theorem dX1_sector_21 : decode cX1_sector 21 = .ok (.invokestatic 27, 3) := by decide +kernel
theorem dX1_sector_24 : decode cX1_sector 24 = .ok (.ifCond .eq 25, 3) := by decide +kernel
theorem dX1_sector_27 : decode cX1_sector 27 = .ok (.iload 4, 2) := by decide +kernel
theorem dX1_sector_29 : decode cX1_sector 29 = .ok (.iconst 0, 1) := by decide +kernel
theorem dX1_sector_30 : decode cX1_sector 30 = .ok (.iconst 3, 1) := by decide +kernel
theorem dX1_sector_31 : decode cX1_sector 31 = .ok (.invokestatic 27, 3) := by decide +kernel
theorem dX1_sector_34 : decode cX1_sector 34 = .ok (.ifCond .eq 15, 3) := by decide +kernel
theorem dX1_sector_37 : decode cX1_sector 37 = .ok (.iload 5, 2) := by decide +kernel
theorem dX1_sector_39 : decode cX1_sector 39 = .ok (.iconst 0, 1) := by decide +kernel
theorem dX1_sector_40 : decode cX1_sector 40 = .ok (.sipush 255, 3) := by decide +kernel
theorem dX1_sector_43 : decode cX1_sector 43 = .ok (.invokestatic 27, 3) := by decide +kernel
theorem dX1_sector_46 : decode cX1_sector 46 = .ok (.ifCond .ne 5, 3) := by decide +kernel
theorem dX1_sector_49 : decode cX1_sector 49 = .ok (.iconst (-1), 1) := by decide +kernel
theorem dX1_sector_50 : decode cX1_sector 50 = .ok (.ireturn, 1) := by decide +kernel
theorem dX1_sector_51 : decode cX1_sector 51 = .ok (.aload_n 0, 1) := by decide +kernel
theorem dX1_sector_52 : decode cX1_sector 52 = .ok (.getfield 20, 3) := by decide +kernel
theorem dX1_sector_55 : decode cX1_sector 55 = .ok (.istore 6, 2) := by decide +kernel
theorem dX1_sector_57 : decode cX1_sector 57 = .ok (.aload_n 0, 1) := by decide +kernel
theorem dX1_sector_58 : decode cX1_sector 58 = .ok (.getfield 11, 3) := by decide +kernel
theorem dX1_sector_61 : decode cX1_sector 61 = .ok (.iload 6, 2) := by decide +kernel
theorem dX1_sector_63 : decode cX1_sector 63 = .ok (.aaload, 1) := by decide +kernel
theorem dX1_sector_64 : decode cX1_sector 64 = .ok (.iload_n 1, 1) := by decide +kernel
theorem dX1_sector_65 : decode cX1_sector 65 = .ok (.iload_n 2, 1) := by decide +kernel
theorem dX1_sector_66 : decode cX1_sector 66 = .ok (.iload_n 3, 1) := by decide +kernel
theorem dX1_sector_67 : decode cX1_sector 67 = .ok (.iload 4, 2) := by decide +kernel
theorem dX1_sector_69 : decode cX1_sector 69 = .ok (.iload 5, 2) := by decide +kernel
theorem dX1_sector_71 : decode cX1_sector 71 = .ok (.invokevirtual 31, 3) := by decide +kernel
theorem dX1_sector_74 : decode cX1_sector 74 = .ok (.aload_n 0, 1) := by decide +kernel
theorem dX1_sector_75 : decode cX1_sector 75 = .ok (.dup, 1) := by decide +kernel
theorem dX1_sector_76 : decode cX1_sector 76 = .ok (.getfield 20, 3) := by decide +kernel
theorem dX1_sector_79 : decode cX1_sector 79 = .ok (.iconst 1, 1) := by decide +kernel
theorem dX1_sector_80 : decode cX1_sector 80 = .ok (.iadd, 1) := by decide +kernel
theorem dX1_sector_81 : decode cX1_sector 81 = .ok (.putfield 20, 3) := by decide +kernel
theorem dX1_sector_84 : decode cX1_sector 84 = .ok (.aload_n 0, 1) := by decide +kernel
theorem dX1_sector_85 : decode cX1_sector 85 = .ok (.invokevirtual 35, 3) := by decide +kernel
theorem dX1_sector_88 : decode cX1_sector 88 = .ok (.iload 6, 2) := by decide +kernel
theorem dX1_sector_90 : decode cX1_sector 90 = .ok (.ireturn, 1) := by decide +kernel
set_option maxRecDepth 20000 in
theorem ggX1_join_X1_isSector : GoodIn wsX1_join wsX1_isSector := goodIn_r _ [7, 8, 17, 18, 19, 20, 21, 22, 23] (by decide +kernel) (by decide +kernel)
set_option maxRecDepth 20000 in
theorem gX1_join_X1_isSector : GoodIn wsX1_join (wsV RX1 38 RX1 yX1_isSector wsX1_isSector) := goodIn_app (goodIn_of _ (by decide +kernel)) ggX1_join_X1_isSector
set_option maxRecDepth 20000 in
theorem ggX1_join_X0_hasNeighbour : GoodIn wsX1_join wsX0_hasNeighbour := goodIn_r _ [12, 13, 24, 25, 26, 27, 28, 29, 30, 31, 32, 33, 34, 35, 36] (by decide +kernel) (by decide +kernel)
set_option maxRecDepth 20000 in
theorem gX1_join_X0_hasNeighbour_n42 : GoodIn wsX1_join (wsX0_hasNeighbour) := ggX1_join_X0_hasNeighbour
set_option maxRecDepth 20000 in
theorem ggX1_join_X0_addNeighbour : GoodIn wsX1_join wsX0_addNeighbour := goodIn_r _ [16, 13, 24, 25, 26, 27, 28, 29, 30, 31, 32, 33, 34, 35, 36] (by decide +kernel) (by decide +kernel)
set_option maxRecDepth 20000 in
theorem gX1_join_X0_addNeighbour_n45 : GoodIn wsX1_join (wsX0_addNeighbour) := ggX1_join_X0_addNeighbour
theorem dX1_join_0 : decode cX1_join 0 = .ok (.aload_n 0, 1) := by decide +kernel
theorem dX1_join_1 : decode cX1_join 1 = .ok (.iload_n 1, 1) := by decide +kernel
theorem dX1_join_2 : decode cX1_join 2 = .ok (.invokevirtual 38, 3) := by decide +kernel
theorem dX1_join_5 : decode cX1_join 5 = .ok (.ifCond .eq 29, 3) := by decide +kernel
theorem dX1_join_8 : decode cX1_join 8 = .ok (.aload_n 0, 1) := by decide +kernel
theorem dX1_join_9 : decode cX1_join 9 = .ok (.iload_n 2, 1) := by decide +kernel
theorem dX1_join_10 : decode cX1_join 10 = .ok (.invokevirtual 38, 3) := by decide +kernel
theorem dX1_join_13 : decode cX1_join 13 = .ok (.ifCond .eq 21, 3) := by decide +kernel
theorem dX1_join_16 : decode cX1_join 16 = .ok (.iload_n 1, 1) := by decide +kernel
theorem dX1_join_17 : decode cX1_join 17 = .ok (.iload_n 2, 1) := by decide +kernel
theorem dX1_join_18 : decode cX1_join 18 = .ok (.if_icmp .eq 16, 3) := by decide +kernel
theorem dX1_join_21 : decode cX1_join 21 = .ok (.aload_n 0, 1) := by decide +kernel
theorem dX1_join_22 : decode cX1_join 22 = .ok (.getfield 11, 3) := by decide +kernel
theorem dX1_join_25 : decode cX1_join 25 = .ok (.iload_n 1, 1) := by decide +kernel
theorem dX1_join_26 : decode cX1_join 26 = .ok (.aaload, 1) := by decide +kernel
theorem dX1_join_27 : decode cX1_join 27 = .ok (.iload_n 2, 1) := by decide +kernel
theorem dX1_join_28 : decode cX1_join 28 = .ok (.invokevirtual 42, 3) := by decide +kernel
theorem dX1_join_31 : decode cX1_join 31 = .ok (.ifCond .eq 5, 3) := by decide +kernel
theorem dX1_join_34 : decode cX1_join 34 = .ok (.iconst 0, 1) := by decide +kernel
theorem dX1_join_35 : decode cX1_join 35 = .ok (.ireturn, 1) := by decide +kernel
theorem dX1_join_36 : decode cX1_join 36 = .ok (.aload_n 0, 1) := by decide +kernel
theorem dX1_join_37 : decode cX1_join 37 = .ok (.getfield 11, 3) := by decide +kernel
theorem dX1_join_40 : decode cX1_join 40 = .ok (.iload_n 1, 1) := by decide +kernel
theorem dX1_join_41 : decode cX1_join 41 = .ok (.aaload, 1) := by decide +kernel
theorem dX1_join_42 : decode cX1_join 42 = .ok (.iload_n 2, 1) := by decide +kernel
theorem dX1_join_43 : decode cX1_join 43 = .ok (.invokevirtual 45, 3) := by decide +kernel
theorem dX1_join_46 : decode cX1_join 46 = .ok (.aload_n 0, 1) := by decide +kernel
theorem dX1_join_47 : decode cX1_join 47 = .ok (.getfield 11, 3) := by decide +kernel
theorem dX1_join_50 : decode cX1_join 50 = .ok (.iload_n 2, 1) := by decide +kernel
theorem dX1_join_51 : decode cX1_join 51 = .ok (.aaload, 1) := by decide +kernel
theorem dX1_join_52 : decode cX1_join 52 = .ok (.iload_n 1, 1) := by decide +kernel
theorem dX1_join_53 : decode cX1_join 53 = .ok (.invokevirtual 45, 3) := by decide +kernel
theorem dX1_join_56 : decode cX1_join 56 = .ok (.aload_n 0, 1) := by decide +kernel
theorem dX1_join_57 : decode cX1_join 57 = .ok (.dup, 1) := by decide +kernel
theorem dX1_join_58 : decode cX1_join 58 = .ok (.getfield 49, 3) := by decide +kernel
theorem dX1_join_61 : decode cX1_join 61 = .ok (.iconst 1, 1) := by decide +kernel
theorem dX1_join_62 : decode cX1_join 62 = .ok (.iadd, 1) := by decide +kernel
theorem dX1_join_63 : decode cX1_join 63 = .ok (.putfield 49, 3) := by decide +kernel
theorem dX1_join_66 : decode cX1_join 66 = .ok (.iconst 1, 1) := by decide +kernel
theorem dX1_join_67 : decode cX1_join 67 = .ok (.ireturn, 1) := by decide +kernel
set_option maxRecDepth 20000 in
theorem ggX1_reset_X0_goBackToPlan : GoodIn wsX1_reset wsX0_goBackToPlan := goodIn_r _ [10, 11, 12, 13, 14, 15, 16, 17, 8, 18, 19, 20, 21, 22, 30, 31, 32, 33, 34, 35, 36, 37, 38, 39, 40, 41, 42] (by decide +kernel) (by decide +kernel)
set_option maxRecDepth 20000 in
theorem gX1_reset_X0_goBackToPlan_n52 : GoodIn wsX1_reset (wsX0_goBackToPlan) := ggX1_reset_X0_goBackToPlan
theorem dX1_reset_0 : decode cX1_reset 0 = .ok (.iconst 0, 1) := by decide +kernel
theorem dX1_reset_1 : decode cX1_reset 1 = .ok (.istore_n 1, 1) := by decide +kernel
theorem dX1_reset_2 : decode cX1_reset 2 = .ok (.iload_n 1, 1) := by decide +kernel
theorem dX1_reset_3 : decode cX1_reset 3 = .ok (.aload_n 0, 1) := by decide +kernel
theorem dX1_reset_4 : decode cX1_reset 4 = .ok (.getfield 20, 3) := by decide +kernel
theorem dX1_reset_7 : decode cX1_reset 7 = .ok (.if_icmp .ge 18, 3) := by decide +kernel
theorem dX1_reset_10 : decode cX1_reset 10 = .ok (.aload_n 0, 1) := by decide +kernel
theorem dX1_reset_11 : decode cX1_reset 11 = .ok (.getfield 11, 3) := by decide +kernel
theorem dX1_reset_14 : decode cX1_reset 14 = .ok (.iload_n 1, 1) := by decide +kernel
theorem dX1_reset_15 : decode cX1_reset 15 = .ok (.aaload, 1) := by decide +kernel
theorem dX1_reset_16 : decode cX1_reset 16 = .ok (.invokevirtual 52, 3) := by decide +kernel
theorem dX1_reset_19 : decode cX1_reset 19 = .ok (.iinc 1 1, 3) := by decide +kernel
theorem dX1_reset_22 : decode cX1_reset 22 = .ok (.goto (-20), 3) := by decide +kernel
theorem dX1_reset_25 : decode cX1_reset 25 = .ok (.aload_n 0, 1) := by decide +kernel
theorem dX1_reset_26 : decode cX1_reset 26 = .ok (.iconst 0, 1) := by decide +kernel
theorem dX1_reset_27 : decode cX1_reset 27 = .ok (.putfield 55, 3) := by decide +kernel
theorem dX1_reset_30 : decode cX1_reset 30 = .ok (.aload_n 0, 1) := by decide +kernel
theorem dX1_reset_31 : decode cX1_reset 31 = .ok (.iconst 0, 1) := by decide +kernel
theorem dX1_reset_32 : decode cX1_reset 32 = .ok (.putfield 58, 3) := by decide +kernel
theorem dX1_reset_35 : decode cX1_reset 35 = .ok (.aload_n 0, 1) := by decide +kernel
theorem dX1_reset_36 : decode cX1_reset 36 = .ok (.iconst 0, 1) := by decide +kernel
theorem dX1_reset_37 : decode cX1_reset 37 = .ok (.putfield 61, 3) := by decide +kernel
theorem dX1_reset_40 : decode cX1_reset 40 = .ok (.aload_n 0, 1) := by decide +kernel
theorem dX1_reset_41 : decode cX1_reset 41 = .ok (.iconst (-1), 1) := by decide +kernel
theorem dX1_reset_42 : decode cX1_reset 42 = .ok (.putfield 16, 3) := by decide +kernel
theorem dX1_reset_45 : decode cX1_reset 45 = .ok (.return_, 1) := by decide +kernel
set_option maxRecDepth 20000 in
theorem ggX1_clear_X1_reset : GoodIn wsX1_clear wsX1_reset := goodIn_r _ [7, 1, 8, 9, 10, 11, 12, 13, 14, 15, 16, 17, 18, 19, 20, 21, 22, 23, 24, 25, 26, 27, 28, 29, 30, 31, 32, 33, 34, 35, 36, 37, 38, 39, 40, 41, 42, 43, 44, 45, 46, 47, 48] (by decide +kernel) (by decide +kernel)
set_option maxRecDepth 20000 in
theorem gX1_clear_X1_reset : GoodIn wsX1_clear (wsV RX1 35 RX1 yX1_reset wsX1_reset) := goodIn_app (goodIn_of _ (by decide +kernel)) ggX1_clear_X1_reset
theorem dX1_clear_0 : decode cX1_clear 0 = .ok (.aload_n 0, 1) := by decide +kernel
theorem dX1_clear_1 : decode cX1_clear 1 = .ok (.iconst 0, 1) := by decide +kernel
theorem dX1_clear_2 : decode cX1_clear 2 = .ok (.putfield 20, 3) := by decide +kernel
theorem dX1_clear_5 : decode cX1_clear 5 = .ok (.aload_n 0, 1) := by decide +kernel
theorem dX1_clear_6 : decode cX1_clear 6 = .ok (.iconst 0, 1) := by decide +kernel
theorem dX1_clear_7 : decode cX1_clear 7 = .ok (.putfield 49, 3) := by decide +kernel
theorem dX1_clear_10 : decode cX1_clear 10 = .ok (.aload_n 0, 1) := by decide +kernel
theorem dX1_clear_11 : decode cX1_clear 11 = .ok (.invokevirtual 35, 3) := by decide +kernel
theorem dX1_clear_14 : decode cX1_clear 14 = .ok (.return_, 1) := by decide +kernel
set_option maxRecDepth 20000 in
theorem ggX1_begin_X1_isSector : GoodIn wsX1_begin wsX1_isSector := goodIn_r _ [6, 7, 55, 56, 57, 58, 59, 60, 61] (by decide +kernel) (by decide +kernel)
set_option maxRecDepth 20000 in
theorem gX1_begin_X1_isSector : GoodIn wsX1_begin (wsV RX1 38 RX1 yX1_isSector wsX1_isSector) := goodIn_app (goodIn_of _ (by decide +kernel)) ggX1_begin_X1_isSector
set_option maxRecDepth 20000 in
theorem ggX1_begin_X1_isMover : GoodIn wsX1_begin wsX1_isMover := goodIn_r _ [10, 11, 12, 5, 13] (by decide +kernel) (by decide +kernel)
set_option maxRecDepth 20000 in
theorem gX1_begin_X1_isMover : GoodIn wsX1_begin (va_wsS RX1 64 yX1_isMover wsX1_isMover) := goodIn_app (goodIn_of _ (by decide +kernel)) ggX1_begin_X1_isMover
set_option maxRecDepth 20000 in
theorem ggX1_begin_X1_start : GoodIn wsX1_begin wsX1_start := goodIn_r _ [17, 18, 19, 20, 21, 5, 22, 23, 24, 25, 26, 27, 28, 29, 30, 31, 32, 33, 7, 1, 34, 35, 36, 37, 38, 39, 40, 41, 42, 43, 44, 45, 46, 47, 48, 49, 50, 51, 52, 53, 54, 62, 63, 64, 65, 66, 67, 68, 69, 70, 71, 72, 73, 74, 55, 56, 57, 58, 59, 60, 61] (by decide +kernel) (by decide +kernel)
set_option maxRecDepth 20000 in
theorem gX1_begin_X1_start : GoodIn wsX1_begin (wsV RX1 70 RX1 yX1_start wsX1_start) := goodIn_app (goodIn_of _ (by decide +kernel)) ggX1_begin_X1_start
set_option maxRecDepth 20000 in
theorem ggX1_begin_X0_go : GoodIn wsX1_begin wsX0_go := goodIn_r _ [52, 53, 54, 62, 63, 64, 65, 66, 67, 68, 69, 70, 71, 72, 73, 74] (by decide +kernel) (by decide +kernel)
set_option maxRecDepth 20000 in
theorem gX1_begin_X0_go_n77 : GoodIn wsX1_begin (wsX0_go) := ggX1_begin_X0_go
theorem dX1_begin_0 : decode cX1_begin 0 = .ok (.aload_n 0, 1) := by decide +kernel
theorem dX1_begin_1 : decode cX1_begin 1 = .ok (.iload_n 1, 1) := by decide +kernel
theorem dX1_begin_2 : decode cX1_begin 2 = .ok (.invokevirtual 38, 3) := by decide +kernel
theorem dX1_begin_5 : decode cX1_begin 5 = .ok (.ifCond .eq 10, 3) := by decide +kernel
theorem dX1_begin_8 : decode cX1_begin 8 = .ok (.iload_n 2, 1) := by decide +kernel
theorem dX1_begin_9 : decode cX1_begin 9 = .ok (.invokestatic 64, 3) := by decide +kernel
theorem dX1_begin_12 : decode cX1_begin 12 = .ok (.ifCond .ne 5, 3) := by decide +kernel
theorem dX1_begin_15 : decode cX1_begin 15 = .ok (.iconst 0, 1) := by decide +kernel
theorem dX1_begin_16 : decode cX1_begin 16 = .ok (.ireturn, 1) := by decide +kernel
theorem dX1_begin_17 : decode cX1_begin 17 = .ok (.aload_n 0, 1) := by decide +kernel
theorem dX1_begin_18 : decode cX1_begin 18 = .ok (.getfield 11, 3) := by decide +kernel
theorem dX1_begin_21 : decode cX1_begin 21 = .ok (.iload_n 1, 1) := by decide +kernel
theorem dX1_begin_22 : decode cX1_begin 22 = .ok (.aaload, 1) := by decide +kernel
theorem dX1_begin_23 : decode cX1_begin 23 = .ok (.astore_n 3, 1) := by decide +kernel
theorem dX1_begin_24 : decode cX1_begin 24 = .ok (.aload_n 3, 1) := by decide +kernel
theorem dX1_begin_25 : decode cX1_begin 25 = .ok (.getfield 67, 3) := by decide +kernel
theorem dX1_begin_28 : decode cX1_begin 28 = .ok (.iconst (-1), 1) := by decide +kernel
theorem dX1_begin_29 : decode cX1_begin 29 = .ok (.if_icmp .ne 11, 3) := by decide +kernel
theorem dX1_begin_32 : decode cX1_begin 32 = .ok (.aload_n 0, 1) := by decide +kernel
theorem dX1_begin_33 : decode cX1_begin 33 = .ok (.aload_n 3, 1) := by decide +kernel
theorem dX1_begin_34 : decode cX1_begin 34 = .ok (.iload_n 2, 1) := by decide +kernel
theorem dX1_begin_35 : decode cX1_begin 35 = .ok (.invokevirtual 70, 3) := by decide +kernel
theorem dX1_begin_38 : decode cX1_begin 38 = .ok (.iconst 1, 1) := by decide +kernel
theorem dX1_begin_39 : decode cX1_begin 39 = .ok (.ireturn, 1) := by decide +kernel
theorem dX1_begin_40 : decode cX1_begin 40 = .ok (.iload_n 2, 1) := by decide +kernel
theorem dX1_begin_41 : decode cX1_begin 41 = .ok (.ifCond .ne 25, 3) := by decide +kernel
theorem dX1_begin_44 : decode cX1_begin 44 = .ok (.aload_n 3, 1) := by decide +kernel
theorem dX1_begin_45 : decode cX1_begin 45 = .ok (.getfield 67, 3) := by decide +kernel
theorem dX1_begin_48 : decode cX1_begin 48 = .ok (.ifCond .ne 18, 3) := by decide +kernel
theorem dX1_begin_51 : decode cX1_begin 51 = .ok (.aload_n 3, 1) := by decide +kernel
theorem dX1_begin_52 : decode cX1_begin 52 = .ok (.getfield 74, 3) := by decide +kernel
theorem dX1_begin_55 : decode cX1_begin 55 = .ok (.iconst 1, 1) := by decide +kernel
theorem dX1_begin_56 : decode cX1_begin 56 = .ok (.if_icmp .eq 10, 3) := by decide +kernel
theorem dX1_begin_59 : decode cX1_begin 59 = .ok (.aload_n 3, 1) := by decide +kernel
theorem dX1_begin_60 : decode cX1_begin 60 = .ok (.iconst 1, 1) := by decide +kernel
theorem dX1_begin_61 : decode cX1_begin 61 = .ok (.invokevirtual 77, 3) := by decide +kernel
theorem dX1_begin_64 : decode cX1_begin 64 = .ok (.iconst 1, 1) := by decide +kernel
theorem dX1_begin_65 : decode cX1_begin 65 = .ok (.ireturn, 1) := by decide +kernel
theorem dX1_begin_66 : decode cX1_begin 66 = .ok (.iconst 0, 1) := by decide +kernel
theorem dX1_begin_67 : decode cX1_begin 67 = .ok (.ireturn, 1) := by decide +kernel
set_option maxRecDepth 20000 in
theorem ggX1_tag_X1_isWithin : GoodIn wsX1_tag wsX1_isWithin := goodIn_r _ [6] (by decide +kernel) (by decide +kernel)
set_option maxRecDepth 20000 in
theorem gX1_tag_X1_isWithin : GoodIn wsX1_tag (va_wsS RX1 27 yX1_isWithin wsX1_isWithin) := goodIn_app (goodIn_of _ (by decide +kernel)) ggX1_tag_X1_isWithin
set_option maxRecDepth 20000 in
theorem ggX1_tag_X1_isMover : GoodIn wsX1_tag wsX1_isMover := goodIn_r _ [9, 3, 4, 5, 6] (by decide +kernel) (by decide +kernel)
set_option maxRecDepth 20000 in
theorem gX1_tag_X1_isMover : GoodIn wsX1_tag (va_wsS RX1 64 yX1_isMover wsX1_isMover) := goodIn_app (goodIn_of _ (by decide +kernel)) ggX1_tag_X1_isMover
set_option maxRecDepth 20000 in
theorem ggX1_tag_X1_begin : GoodIn wsX1_tag wsX1_begin := goodIn_r _ [13, 2, 14, 15, 16, 5, 17, 1, 7, 8, 9, 3, 4, 6, 18, 19, 20, 21, 22, 23, 24, 25, 26, 27, 28, 29, 30, 31, 32, 33, 34, 35, 36, 37, 38, 39, 40, 41, 42, 43, 44, 45, 46, 47, 48, 49, 50, 51, 52, 53, 54, 55, 56, 57, 58, 59, 60, 61, 62, 63, 64, 65, 66, 67, 68, 69, 70, 71, 72, 73, 74, 75, 76, 77, 78] (by decide +kernel) (by decide +kernel)
set_option maxRecDepth 20000 in
theorem gX1_tag_X1_begin : GoodIn wsX1_tag (wsV RX1 83 RX1 yX1_begin wsX1_begin) := goodIn_app (goodIn_of _ (by decide +kernel)) ggX1_tag_X1_begin
theorem dX1_tag_0 : decode cX1_tag 0 = .ok (.iload_n 1, 1) := by decide +kernel
theorem dX1_tag_1 : decode cX1_tag 1 = .ok (.iconst 0, 1) := by decide +kernel
theorem dX1_tag_2 : decode cX1_tag 2 = .ok (.sipush 255, 3) := by decide +kernel
theorem dX1_tag_5 : decode cX1_tag 5 = .ok (.invokestatic 27, 3) := by decide +kernel
theorem dX1_tag_8 : decode cX1_tag 8 = .ok (.ifCond .eq 10, 3) := by decide +kernel
theorem dX1_tag_11 : decode cX1_tag 11 = .ok (.iload_n 2, 1) := by decide +kernel
theorem dX1_tag_12 : decode cX1_tag 12 = .ok (.invokestatic 64, 3) := by decide +kernel
theorem dX1_tag_15 : decode cX1_tag 15 = .ok (.ifCond .ne 5, 3) := by decide +kernel
theorem dX1_tag_18 : decode cX1_tag 18 = .ok (.iconst (-1), 1) := by decide +kernel
theorem dX1_tag_19 : decode cX1_tag 19 = .ok (.ireturn, 1) := by decide +kernel
theorem dX1_tag_20 : decode cX1_tag 20 = .ok (.iconst 0, 1) := by decide +kernel
theorem dX1_tag_21 : decode cX1_tag 21 = .ok (.istore_n 3, 1) := by decide +kernel
theorem dX1_tag_22 : decode cX1_tag 22 = .ok (.iconst 0, 1) := by decide +kernel
theorem dX1_tag_23 : decode cX1_tag 23 = .ok (.istore 4, 2) := by decide +kernel
theorem dX1_tag_25 : decode cX1_tag 25 = .ok (.iload 4, 2) := by decide +kernel
theorem dX1_tag_27 : decode cX1_tag 27 = .ok (.aload_n 0, 1) := by decide +kernel
theorem dX1_tag_28 : decode cX1_tag 28 = .ok (.getfield 20, 3) := by decide +kernel
theorem dX1_tag_31 : decode cX1_tag 31 = .ok (.if_icmp .ge 36, 3) := by decide +kernel
theorem dX1_tag_34 : decode cX1_tag 34 = .ok (.aload_n 0, 1) := by decide +kernel
theorem dX1_tag_35 : decode cX1_tag 35 = .ok (.getfield 11, 3) := by decide +kernel
theorem dX1_tag_38 : decode cX1_tag 38 = .ok (.iload 4, 2) := by decide +kernel
theorem dX1_tag_40 : decode cX1_tag 40 = .ok (.aaload, 1) := by decide +kernel
theorem dX1_tag_41 : decode cX1_tag 41 = .ok (.getfield 80, 3) := by decide +kernel
theorem dX1_tag_44 : decode cX1_tag 44 = .ok (.iload_n 1, 1) := by decide +kernel
theorem dX1_tag_45 : decode cX1_tag 45 = .ok (.if_icmp .ne 16, 3) := by decide +kernel
theorem dX1_tag_48 : decode cX1_tag 48 = .ok (.aload_n 0, 1) := by decide +kernel
theorem dX1_tag_49 : decode cX1_tag 49 = .ok (.iload 4, 2) := by decide +kernel
theorem dX1_tag_51 : decode cX1_tag 51 = .ok (.iload_n 2, 1) := by decide +kernel
theorem dX1_tag_52 : decode cX1_tag 52 = .ok (.invokevirtual 83, 3) := by decide +kernel
theorem dX1_tag_55 : decode cX1_tag 55 = .ok (.ifCond .eq 6, 3) := by decide +kernel
theorem dX1_tag_58 : decode cX1_tag 58 = .ok (.iinc 3 1, 3) := by decide +kernel
theorem dX1_tag_61 : decode cX1_tag 61 = .ok (.iinc 4 1, 3) := by decide +kernel
theorem dX1_tag_64 : decode cX1_tag 64 = .ok (.goto (-39), 3) := by decide +kernel
theorem dX1_tag_67 : decode cX1_tag 67 = .ok (.iload_n 3, 1) := by decide +kernel
theorem dX1_tag_68 : decode cX1_tag 68 = .ok (.ireturn, 1) := by decide +kernel
set_option maxRecDepth 20000 in
theorem ggX1_enter_X1_isSector : GoodIn wsX1_enter wsX1_isSector := goodIn_r _ [6, 7, 8, 9, 10, 11, 12, 13, 14] (by decide +kernel) (by decide +kernel)
set_option maxRecDepth 20000 in
theorem gX1_enter_X1_isSector : GoodIn wsX1_enter (wsV RX1 38 RX1 yX1_isSector wsX1_isSector) := goodIn_app (goodIn_of _ (by decide +kernel)) ggX1_enter_X1_isSector
theorem dX1_enter_0 : decode cX1_enter 0 = .ok (.iload_n 1, 1) := by decide +kernel
theorem dX1_enter_1 : decode cX1_enter 1 = .ok (.iconst (-1), 1) := by decide +kernel
theorem dX1_enter_2 : decode cX1_enter 2 = .ok (.if_icmp .eq 13, 3) := by decide +kernel
theorem dX1_enter_5 : decode cX1_enter 5 = .ok (.aload_n 0, 1) := by decide +kernel
theorem dX1_enter_6 : decode cX1_enter 6 = .ok (.iload_n 1, 1) := by decide +kernel
theorem dX1_enter_7 : decode cX1_enter 7 = .ok (.invokevirtual 38, 3) := by decide +kernel
theorem dX1_enter_10 : decode cX1_enter 10 = .ok (.ifCond .ne 5, 3) := by decide +kernel
theorem dX1_enter_13 : decode cX1_enter 13 = .ok (.iconst 0, 1) := by decide +kernel
theorem dX1_enter_14 : decode cX1_enter 14 = .ok (.ireturn, 1) := by decide +kernel
theorem dX1_enter_15 : decode cX1_enter 15 = .ok (.aload_n 0, 1) := by decide +kernel
theorem dX1_enter_16 : decode cX1_enter 16 = .ok (.iload_n 1, 1) := by decide +kernel
theorem dX1_enter_17 : decode cX1_enter 17 = .ok (.putfield 16, 3) := by decide +kernel
theorem dX1_enter_20 : decode cX1_enter 20 = .ok (.iconst 1, 1) := by decide +kernel
theorem dX1_enter_21 : decode cX1_enter 21 = .ok (.ireturn, 1) := by decide +kernel
set_option maxRecDepth 20000 in
theorem ggX1_ticks_X1_isWithin : GoodIn wsX1_ticks wsX1_isWithin := goodIn_r _ [5] (by decide +kernel) (by decide +kernel)
set_option maxRecDepth 20000 in
theorem gX1_ticks_X1_isWithin : GoodIn wsX1_ticks (va_wsS RX1 27 yX1_isWithin wsX1_isWithin) := goodIn_app (goodIn_of _ (by decide +kernel)) ggX1_ticks_X1_isWithin
set_option maxRecDepth 20000 in
theorem ggX1_ticks_X1_passOneTick : GoodIn wsX1_ticks wsX1_passOneTick := goodIn_r _ [9, 1, 10, 11, 12, 13, 14, 15, 16, 4, 17, 18, 19, 20, 21, 22, 23, 24, 25, 26, 27, 28, 29, 30, 31, 32, 33, 34, 35, 36, 37, 38, 39, 40, 41, 42, 43, 44, 45, 46, 47, 48, 49, 50, 51, 52, 53, 54, 55, 56, 57, 58, 59, 60, 61, 62, 63, 64, 65, 66, 67, 68, 69, 70, 71, 72, 73, 74, 75, 76, 77, 78, 79, 80, 81, 82] (by decide +kernel) (by decide +kernel)
set_option maxRecDepth 20000 in
theorem gX1_ticks_X1_passOneTick : GoodIn wsX1_ticks (wsV RX1 86 RX1 yX1_passOneTick wsX1_passOneTick) := goodIn_app (goodIn_of _ (by decide +kernel)) ggX1_ticks_X1_passOneTick
theorem dX1_ticks_0 : decode cX1_ticks 0 = .ok (.iload_n 1, 1) := by decide +kernel
theorem dX1_ticks_1 : decode cX1_ticks 1 = .ok (.iconst 0, 1) := by decide +kernel
theorem dX1_ticks_2 : decode cX1_ticks 2 = .ok (.sipush 1000, 3) := by decide +kernel
theorem dX1_ticks_5 : decode cX1_ticks 5 = .ok (.invokestatic 27, 3) := by decide +kernel
theorem dX1_ticks_8 : decode cX1_ticks 8 = .ok (.ifCond .ne 5, 3) := by decide +kernel
theorem dX1_ticks_11 : decode cX1_ticks 11 = .ok (.iconst (-1), 1) := by decide +kernel
theorem dX1_ticks_12 : decode cX1_ticks 12 = .ok (.ireturn, 1) := by decide +kernel
theorem dX1_ticks_13 : decode cX1_ticks 13 = .ok (.iconst 0, 1) := by decide +kernel
theorem dX1_ticks_14 : decode cX1_ticks 14 = .ok (.istore_n 2, 1) := by decide +kernel
theorem dX1_ticks_15 : decode cX1_ticks 15 = .ok (.iload_n 2, 1) := by decide +kernel
theorem dX1_ticks_16 : decode cX1_ticks 16 = .ok (.iload_n 1, 1) := by decide +kernel
theorem dX1_ticks_17 : decode cX1_ticks 17 = .ok (.if_icmp .ge 13, 3) := by decide +kernel
theorem dX1_ticks_20 : decode cX1_ticks 20 = .ok (.aload_n 0, 1) := by decide +kernel
theorem dX1_ticks_21 : decode cX1_ticks 21 = .ok (.invokevirtual 86, 3) := by decide +kernel
theorem dX1_ticks_24 : decode cX1_ticks 24 = .ok (.iinc 2 1, 3) := by decide +kernel
theorem dX1_ticks_27 : decode cX1_ticks 27 = .ok (.goto (-12), 3) := by decide +kernel
theorem dX1_ticks_30 : decode cX1_ticks 30 = .ok (.aload_n 0, 1) := by decide +kernel
theorem dX1_ticks_31 : decode cX1_ticks 31 = .ok (.getfield 55, 3) := by decide +kernel
theorem dX1_ticks_34 : decode cX1_ticks 34 = .ok (.ireturn, 1) := by decide +kernel
set_option maxRecDepth 20000 in
theorem ggX1_of_X1_isSector : GoodIn wsX1_of wsX1_isSector := goodIn_r _ [7, 8, 42, 43, 44, 45, 46, 47, 48] (by decide +kernel) (by decide +kernel)
set_option maxRecDepth 20000 in
theorem gX1_of_X1_isSector : GoodIn wsX1_of (wsV RX1 38 RX1 yX1_isSector wsX1_isSector) := goodIn_app (goodIn_of _ (by decide +kernel)) ggX1_of_X1_isSector
set_option maxRecDepth 20000 in
theorem ggX1_of_X1_lightNow : GoodIn wsX1_of wsX1_lightNow := goodIn_r _ [12, 13, 14, 15, 16, 17, 18, 49, 50, 51, 52, 53, 54, 55, 56, 57, 58, 59, 60, 61, 42, 43, 44, 45, 46, 47, 48] (by decide +kernel) (by decide +kernel)
set_option maxRecDepth 20000 in
theorem gX1_of_X1_lightNow : GoodIn wsX1_of (wsV RX1 96 RX1 yX1_lightNow wsX1_lightNow) := goodIn_app (goodIn_of _ (by decide +kernel)) ggX1_of_X1_lightNow
set_option maxRecDepth 20000 in
theorem ggX1_of_X1_lowFloor : GoodIn wsX1_of wsX1_lowFloor := goodIn_r _ [22, 8, 2, 23, 24, 17, 25, 26, 27, 28, 29, 30, 49, 50, 51, 52, 53, 54, 55, 56, 57, 58, 59, 60, 61, 42, 43, 44, 45, 46, 47, 48] (by decide +kernel) (by decide +kernel)
set_option maxRecDepth 20000 in
theorem gX1_of_X1_lowFloor : GoodIn wsX1_of (wsV RX1 103 RX1 yX1_lowFloor wsX1_lowFloor) := goodIn_app (goodIn_of _ (by decide +kernel)) ggX1_of_X1_lowFloor
set_option maxRecDepth 20000 in
theorem ggX1_of_X1_highFloor : GoodIn wsX1_of wsX1_highFloor := goodIn_r _ [34, 8, 2, 15, 16, 17, 18, 26, 27, 28, 29, 30, 49, 50, 51, 52, 53, 54, 55, 56, 57, 58, 59, 60, 61, 42, 43, 44, 45, 46, 47, 48] (by decide +kernel) (by decide +kernel)
set_option maxRecDepth 20000 in
theorem gX1_of_X1_highFloor : GoodIn wsX1_of (wsV RX1 106 RX1 yX1_highFloor wsX1_highFloor) := goodIn_app (goodIn_of _ (by decide +kernel)) ggX1_of_X1_highFloor
set_option maxRecDepth 20000 in
theorem ggX1_of_X1_lowCeiling : GoodIn wsX1_of wsX1_lowCeiling := goodIn_r _ [38, 8, 2, 23, 24, 17, 25, 39, 27, 40, 41, 30, 26, 28, 29, 49, 50, 51, 52, 53, 54, 55, 56, 57, 58, 59, 60, 61, 42, 43, 44, 45, 46, 47, 48] (by decide +kernel) (by decide +kernel)
set_option maxRecDepth 20000 in
theorem gX1_of_X1_lowCeiling : GoodIn wsX1_of (wsV RX1 109 RX1 yX1_lowCeiling wsX1_lowCeiling) := goodIn_app (goodIn_of _ (by decide +kernel)) ggX1_of_X1_lowCeiling
theorem dX1_of_0 : decode cX1_of 0 = .ok (.aload_n 0, 1) := by decide +kernel
theorem dX1_of_1 : decode cX1_of 1 = .ok (.iload_n 1, 1) := by decide +kernel
theorem dX1_of_2 : decode cX1_of 2 = .ok (.invokevirtual 38, 3) := by decide +kernel
theorem dX1_of_5 : decode cX1_of 5 = .ok (.ifCond .ne 6, 3) := by decide +kernel
theorem dX1_of_8 : decode cX1_of 8 = .ok (.ldc 89, 2) := by decide +kernel
theorem dX1_of_10 : decode cX1_of 10 = .ok (.ireturn, 1) := by decide +kernel
theorem dX1_of_11 : decode cX1_of 11 = .ok (.aload_n 0, 1) := by decide +kernel
theorem dX1_of_12 : decode cX1_of 12 = .ok (.getfield 11, 3) := by decide +kernel
theorem dX1_of_15 : decode cX1_of 15 = .ok (.iload_n 1, 1) := by decide +kernel
theorem dX1_of_16 : decode cX1_of 16 = .ok (.aaload, 1) := by decide +kernel
theorem dX1_of_17 : decode cX1_of 17 = .ok (.astore_n 3, 1) := by decide +kernel
theorem dX1_of_18 : decode cX1_of 18 = .ok (.iload_n 2, 1) := by decide +kernel
theorem dX1_of_19 : decode cX1_of 19 = .ok (.tableswitch 107 0 9 #[53, 58, 63, 69, 74, 79, 84, 90, 96, 102], 53) := by decide +kernel
theorem dX1_of_72 : decode cX1_of 72 = .ok (.aload_n 3, 1) := by decide +kernel
theorem dX1_of_73 : decode cX1_of 73 = .ok (.getfield 90, 3) := by decide +kernel
theorem dX1_of_76 : decode cX1_of 76 = .ok (.ireturn, 1) := by decide +kernel
theorem dX1_of_77 : decode cX1_of 77 = .ok (.aload_n 3, 1) := by decide +kernel
theorem dX1_of_78 : decode cX1_of 78 = .ok (.getfield 93, 3) := by decide +kernel
theorem dX1_of_81 : decode cX1_of 81 = .ok (.ireturn, 1) := by decide +kernel
theorem dX1_of_82 : decode cX1_of 82 = .ok (.aload_n 0, 1) := by decide +kernel
theorem dX1_of_83 : decode cX1_of 83 = .ok (.aload_n 3, 1) := by decide +kernel
theorem dX1_of_84 : decode cX1_of 84 = .ok (.invokevirtual 96, 3) := by decide +kernel
theorem dX1_of_87 : decode cX1_of 87 = .ok (.ireturn, 1) := by decide +kernel
theorem dX1_of_88 : decode cX1_of 88 = .ok (.aload_n 3, 1) := by decide +kernel
theorem dX1_of_89 : decode cX1_of 89 = .ok (.getfield 67, 3) := by decide +kernel
theorem dX1_of_92 : decode cX1_of 92 = .ok (.ireturn, 1) := by decide +kernel
theorem dX1_of_93 : decode cX1_of 93 = .ok (.aload_n 3, 1) := by decide +kernel
theorem dX1_of_94 : decode cX1_of 94 = .ok (.getfield 74, 3) := by decide +kernel
theorem dX1_of_97 : decode cX1_of 97 = .ok (.ireturn, 1) := by decide +kernel
theorem dX1_of_98 : decode cX1_of 98 = .ok (.aload_n 3, 1) := by decide +kernel
theorem dX1_of_99 : decode cX1_of 99 = .ok (.getfield 100, 3) := by decide +kernel
theorem dX1_of_102 : decode cX1_of 102 = .ok (.ireturn, 1) := by decide +kernel
theorem dX1_of_103 : decode cX1_of 103 = .ok (.aload_n 0, 1) := by decide +kernel
theorem dX1_of_104 : decode cX1_of 104 = .ok (.aload_n 3, 1) := by decide +kernel
theorem dX1_of_105 : decode cX1_of 105 = .ok (.invokevirtual 103, 3) := by decide +kernel
theorem dX1_of_108 : decode cX1_of 108 = .ok (.ireturn, 1) := by decide +kernel
theorem dX1_of_109 : decode cX1_of 109 = .ok (.aload_n 0, 1) := by decide +kernel
theorem dX1_of_110 : decode cX1_of 110 = .ok (.aload_n 3, 1) := by decide +kernel
theorem dX1_of_111 : decode cX1_of 111 = .ok (.invokevirtual 106, 3) := by decide +kernel
theorem dX1_of_114 : decode cX1_of 114 = .ok (.ireturn, 1) := by decide +kernel
theorem dX1_of_115 : decode cX1_of 115 = .ok (.aload_n 0, 1) := by decide +kernel
theorem dX1_of_116 : decode cX1_of 116 = .ok (.aload_n 3, 1) := by decide +kernel
theorem dX1_of_117 : decode cX1_of 117 = .ok (.invokevirtual 109, 3) := by decide +kernel
theorem dX1_of_120 : decode cX1_of 120 = .ok (.ireturn, 1) := by decide +kernel
theorem dX1_of_121 : decode cX1_of 121 = .ok (.aload_n 3, 1) := by decide +kernel
theorem dX1_of_122 : decode cX1_of 122 = .ok (.getfield 112, 3) := by decide +kernel
theorem dX1_of_125 : decode cX1_of 125 = .ok (.ireturn, 1) := by decide +kernel
theorem dX1_of_126 : decode cX1_of 126 = .ok (.ldc 89, 2) := by decide +kernel
theorem dX1_of_128 : decode cX1_of 128 = .ok (.ireturn, 1) := by decide +kernel
theorem dX1_isWithin_0 : decode cX1_isWithin 0 = .ok (.iload_n 0, 1) := by decide +kernel
theorem dX1_isWithin_1 : decode cX1_isWithin 1 = .ok (.iload_n 1, 1) := by decide +kernel
theorem dX1_isWithin_2 : decode cX1_isWithin 2 = .ok (.if_icmp .lt 12, 3) := by decide +kernel
theorem dX1_isWithin_5 : decode cX1_isWithin 5 = .ok (.iload_n 0, 1) := by decide +kernel
theorem dX1_isWithin_6 : decode cX1_isWithin 6 = .ok (.iload_n 2, 1) := by decide +kernel
theorem dX1_isWithin_7 : decode cX1_isWithin 7 = .ok (.if_icmp .gt 7, 3) := by decide +kernel
theorem dX1_isWithin_10 : decode cX1_isWithin 10 = .ok (.iconst 1, 1) := by decide +kernel
theorem dX1_isWithin_11 : decode cX1_isWithin 11 = .ok (.goto 4, 3) := by decide +kernel
theorem dX1_isWithin_14 : decode cX1_isWithin 14 = .ok (.iconst 0, 1) := by decide +kernel
theorem dX1_isWithin_15 : decode cX1_isWithin 15 = .ok (.ireturn, 1) := by decide +kernel
theorem dX1_isShape_0 : decode cX1_isShape 0 = .ok (.iload_n 0, 1) := by decide +kernel
theorem dX1_isShape_1 : decode cX1_isShape 1 = .ok (.sipush (-1024), 3) := by decide +kernel
theorem dX1_isShape_4 : decode cX1_isShape 4 = .ok (.if_icmp .lt 19, 3) := by decide +kernel
theorem dX1_isShape_7 : decode cX1_isShape 7 = .ok (.iload_n 0, 1) := by decide +kernel
theorem dX1_isShape_8 : decode cX1_isShape 8 = .ok (.iload_n 1, 1) := by decide +kernel
theorem dX1_isShape_9 : decode cX1_isShape 9 = .ok (.if_icmp .ge 14, 3) := by decide +kernel
theorem dX1_isShape_12 : decode cX1_isShape 12 = .ok (.iload_n 1, 1) := by decide +kernel
theorem dX1_isShape_13 : decode cX1_isShape 13 = .ok (.sipush 1024, 3) := by decide +kernel
theorem dX1_isShape_16 : decode cX1_isShape 16 = .ok (.if_icmp .gt 7, 3) := by decide +kernel
theorem dX1_isShape_19 : decode cX1_isShape 19 = .ok (.iconst 1, 1) := by decide +kernel
theorem dX1_isShape_20 : decode cX1_isShape 20 = .ok (.goto 4, 3) := by decide +kernel
theorem dX1_isShape_23 : decode cX1_isShape 23 = .ok (.iconst 0, 1) := by decide +kernel
theorem dX1_isShape_24 : decode cX1_isShape 24 = .ok (.ireturn, 1) := by decide +kernel
set_option maxRecDepth 20000 in
theorem ggX1_isMover_X1_isWithin : GoodIn wsX1_isMover wsX1_isWithin := goodIn_r _ [4] (by decide +kernel) (by decide +kernel)
set_option maxRecDepth 20000 in
theorem gX1_isMover_X1_isWithin : GoodIn wsX1_isMover (va_wsS RX1 27 yX1_isWithin wsX1_isWithin) := goodIn_app (goodIn_of _ (by decide +kernel)) ggX1_isMover_X1_isWithin
theorem dX1_isMover_0 : decode cX1_isMover 0 = .ok (.iload_n 0, 1) := by decide +kernel
theorem dX1_isMover_1 : decode cX1_isMover 1 = .ok (.iconst 0, 1) := by decide +kernel
theorem dX1_isMover_2 : decode cX1_isMover 2 = .ok (.iconst 2, 1) := by decide +kernel
theorem dX1_isMover_3 : decode cX1_isMover 3 = .ok (.invokestatic 27, 3) := by decide +kernel
theorem dX1_isMover_6 : decode cX1_isMover 6 = .ok (.ireturn, 1) := by decide +kernel
theorem dX1_isSector_0 : decode cX1_isSector 0 = .ok (.iload_n 1, 1) := by decide +kernel
theorem dX1_isSector_1 : decode cX1_isSector 1 = .ok (.ifCond .lt 15, 3) := by decide +kernel
theorem dX1_isSector_4 : decode cX1_isSector 4 = .ok (.iload_n 1, 1) := by decide +kernel
theorem dX1_isSector_5 : decode cX1_isSector 5 = .ok (.aload_n 0, 1) := by decide +kernel
theorem dX1_isSector_6 : decode cX1_isSector 6 = .ok (.getfield 20, 3) := by decide +kernel
theorem dX1_isSector_9 : decode cX1_isSector 9 = .ok (.if_icmp .ge 7, 3) := by decide +kernel
theorem dX1_isSector_12 : decode cX1_isSector 12 = .ok (.iconst 1, 1) := by decide +kernel
theorem dX1_isSector_13 : decode cX1_isSector 13 = .ok (.goto 4, 3) := by decide +kernel
theorem dX1_isSector_16 : decode cX1_isSector 16 = .ok (.iconst 0, 1) := by decide +kernel
theorem dX1_isSector_17 : decode cX1_isSector 17 = .ok (.ireturn, 1) := by decide +kernel
set_option maxRecDepth 20000 in
theorem ggX1_lowFloor_X0_hasNeighbour : GoodIn wsX1_lowFloor wsX0_hasNeighbour := goodIn_r _ [10, 11, 12, 13, 14, 15, 16, 17, 18, 19, 20, 21, 22, 23, 24] (by decide +kernel) (by decide +kernel)
set_option maxRecDepth 20000 in
theorem gX1_lowFloor_X0_hasNeighbour_n42 : GoodIn wsX1_lowFloor (wsX0_hasNeighbour) := ggX1_lowFloor_X0_hasNeighbour
theorem dX1_lowFloor_0 : decode cX1_lowFloor 0 = .ok (.aload_n 1, 1) := by decide +kernel
theorem dX1_lowFloor_1 : decode cX1_lowFloor 1 = .ok (.getfield 90, 3) := by decide +kernel
theorem dX1_lowFloor_4 : decode cX1_lowFloor 4 = .ok (.istore_n 2, 1) := by decide +kernel
theorem dX1_lowFloor_5 : decode cX1_lowFloor 5 = .ok (.iconst 0, 1) := by decide +kernel
theorem dX1_lowFloor_6 : decode cX1_lowFloor 6 = .ok (.istore_n 3, 1) := by decide +kernel
theorem dX1_lowFloor_7 : decode cX1_lowFloor 7 = .ok (.iload_n 3, 1) := by decide +kernel
theorem dX1_lowFloor_8 : decode cX1_lowFloor 8 = .ok (.aload_n 0, 1) := by decide +kernel
theorem dX1_lowFloor_9 : decode cX1_lowFloor 9 = .ok (.getfield 20, 3) := by decide +kernel
theorem dX1_lowFloor_12 : decode cX1_lowFloor 12 = .ok (.if_icmp .ge 31, 3) := by decide +kernel
theorem dX1_lowFloor_15 : decode cX1_lowFloor 15 = .ok (.aload_n 1, 1) := by decide +kernel
theorem dX1_lowFloor_16 : decode cX1_lowFloor 16 = .ok (.iload_n 3, 1) := by decide +kernel
theorem dX1_lowFloor_17 : decode cX1_lowFloor 17 = .ok (.invokevirtual 42, 3) := by decide +kernel
theorem dX1_lowFloor_20 : decode cX1_lowFloor 20 = .ok (.ifCond .eq 17, 3) := by decide +kernel
theorem dX1_lowFloor_23 : decode cX1_lowFloor 23 = .ok (.iload_n 2, 1) := by decide +kernel
theorem dX1_lowFloor_24 : decode cX1_lowFloor 24 = .ok (.aload_n 0, 1) := by decide +kernel
theorem dX1_lowFloor_25 : decode cX1_lowFloor 25 = .ok (.getfield 11, 3) := by decide +kernel
theorem dX1_lowFloor_28 : decode cX1_lowFloor 28 = .ok (.iload_n 3, 1) := by decide +kernel
theorem dX1_lowFloor_29 : decode cX1_lowFloor 29 = .ok (.aaload, 1) := by decide +kernel
theorem dX1_lowFloor_30 : decode cX1_lowFloor 30 = .ok (.getfield 90, 3) := by decide +kernel
theorem dX1_lowFloor_33 : decode cX1_lowFloor 33 = .ok (.invokestatic 118, 3) := by decide +kernel
theorem dX1_lowFloor_36 : decode cX1_lowFloor 36 = .ok (.istore_n 2, 1) := by decide +kernel
theorem dX1_lowFloor_37 : decode cX1_lowFloor 37 = .ok (.iinc 3 1, 3) := by decide +kernel
theorem dX1_lowFloor_40 : decode cX1_lowFloor 40 = .ok (.goto (-33), 3) := by decide +kernel
theorem dX1_lowFloor_43 : decode cX1_lowFloor 43 = .ok (.iload_n 2, 1) := by decide +kernel
theorem dX1_lowFloor_44 : decode cX1_lowFloor 44 = .ok (.ireturn, 1) := by decide +kernel
set_option maxRecDepth 20000 in
theorem ggX1_highFloor_X0_hasNeighbour : GoodIn wsX1_highFloor wsX0_hasNeighbour := goodIn_r _ [10, 11, 12, 13, 14, 15, 16, 17, 18, 19, 20, 21, 22, 23, 24] (by decide +kernel) (by decide +kernel)
set_option maxRecDepth 20000 in
theorem gX1_highFloor_X0_hasNeighbour_n42 : GoodIn wsX1_highFloor (wsX0_hasNeighbour) := ggX1_highFloor_X0_hasNeighbour
theorem dX1_highFloor_0 : decode cX1_highFloor 0 = .ok (.aload_n 1, 1) := by decide +kernel
theorem dX1_highFloor_1 : decode cX1_highFloor 1 = .ok (.getfield 90, 3) := by decide +kernel
theorem dX1_highFloor_4 : decode cX1_highFloor 4 = .ok (.istore_n 2, 1) := by decide +kernel
theorem dX1_highFloor_5 : decode cX1_highFloor 5 = .ok (.iconst 0, 1) := by decide +kernel
theorem dX1_highFloor_6 : decode cX1_highFloor 6 = .ok (.istore_n 3, 1) := by decide +kernel
theorem dX1_highFloor_7 : decode cX1_highFloor 7 = .ok (.iload_n 3, 1) := by decide +kernel
theorem dX1_highFloor_8 : decode cX1_highFloor 8 = .ok (.aload_n 0, 1) := by decide +kernel
theorem dX1_highFloor_9 : decode cX1_highFloor 9 = .ok (.getfield 20, 3) := by decide +kernel
theorem dX1_highFloor_12 : decode cX1_highFloor 12 = .ok (.if_icmp .ge 31, 3) := by decide +kernel
theorem dX1_highFloor_15 : decode cX1_highFloor 15 = .ok (.aload_n 1, 1) := by decide +kernel
theorem dX1_highFloor_16 : decode cX1_highFloor 16 = .ok (.iload_n 3, 1) := by decide +kernel
theorem dX1_highFloor_17 : decode cX1_highFloor 17 = .ok (.invokevirtual 42, 3) := by decide +kernel
theorem dX1_highFloor_20 : decode cX1_highFloor 20 = .ok (.ifCond .eq 17, 3) := by decide +kernel
theorem dX1_highFloor_23 : decode cX1_highFloor 23 = .ok (.iload_n 2, 1) := by decide +kernel
theorem dX1_highFloor_24 : decode cX1_highFloor 24 = .ok (.aload_n 0, 1) := by decide +kernel
theorem dX1_highFloor_25 : decode cX1_highFloor 25 = .ok (.getfield 11, 3) := by decide +kernel
theorem dX1_highFloor_28 : decode cX1_highFloor 28 = .ok (.iload_n 3, 1) := by decide +kernel
theorem dX1_highFloor_29 : decode cX1_highFloor 29 = .ok (.aaload, 1) := by decide +kernel
theorem dX1_highFloor_30 : decode cX1_highFloor 30 = .ok (.getfield 90, 3) := by decide +kernel
theorem dX1_highFloor_33 : decode cX1_highFloor 33 = .ok (.invokestatic 124, 3) := by decide +kernel
theorem dX1_highFloor_36 : decode cX1_highFloor 36 = .ok (.istore_n 2, 1) := by decide +kernel
theorem dX1_highFloor_37 : decode cX1_highFloor 37 = .ok (.iinc 3 1, 3) := by decide +kernel
theorem dX1_highFloor_40 : decode cX1_highFloor 40 = .ok (.goto (-33), 3) := by decide +kernel
theorem dX1_highFloor_43 : decode cX1_highFloor 43 = .ok (.iload_n 2, 1) := by decide +kernel
theorem dX1_highFloor_44 : decode cX1_highFloor 44 = .ok (.ireturn, 1) := by decide +kernel
set_option maxRecDepth 20000 in
theorem ggX1_lowCeiling_X0_hasNeighbours : GoodIn wsX1_lowCeiling wsX0_hasNeighbours := goodIn_r _ [10, 11, 15, 16, 17, 18, 19, 20, 21, 22, 23, 24, 25, 26, 27] (by decide +kernel) (by decide +kernel)
set_option maxRecDepth 20000 in
theorem gX1_lowCeiling_X0_hasNeighbours_n127 : GoodIn wsX1_lowCeiling (wsX0_hasNeighbours) := ggX1_lowCeiling_X0_hasNeighbours
set_option maxRecDepth 20000 in
theorem ggX1_lowCeiling_X0_hasNeighbour : GoodIn wsX1_lowCeiling wsX0_hasNeighbour := goodIn_r _ [14, 11, 15, 16, 17, 18, 19, 20, 21, 22, 23, 24, 25, 26, 27] (by decide +kernel) (by decide +kernel)
set_option maxRecDepth 20000 in
theorem gX1_lowCeiling_X0_hasNeighbour_n42 : GoodIn wsX1_lowCeiling (wsX0_hasNeighbour) := ggX1_lowCeiling_X0_hasNeighbour
theorem dX1_lowCeiling_0 : decode cX1_lowCeiling 0 = .ok (.aload_n 1, 1) := by decide +kernel
theorem dX1_lowCeiling_1 : decode cX1_lowCeiling 1 = .ok (.invokevirtual 127, 3) := by decide +kernel
theorem dX1_lowCeiling_4 : decode cX1_lowCeiling 4 = .ok (.ifCond .ne 8, 3) := by decide +kernel
theorem dX1_lowCeiling_7 : decode cX1_lowCeiling 7 = .ok (.aload_n 1, 1) := by decide +kernel
theorem dX1_lowCeiling_8 : decode cX1_lowCeiling 8 = .ok (.getfield 93, 3) := by decide +kernel
theorem dX1_lowCeiling_11 : decode cX1_lowCeiling 11 = .ok (.ireturn, 1) := by decide +kernel
theorem dX1_lowCeiling_12 : decode cX1_lowCeiling 12 = .ok (.sipush 1024, 3) := by decide +kernel
theorem dX1_lowCeiling_15 : decode cX1_lowCeiling 15 = .ok (.istore_n 2, 1) := by decide +kernel
theorem dX1_lowCeiling_16 : decode cX1_lowCeiling 16 = .ok (.iconst 0, 1) := by decide +kernel
theorem dX1_lowCeiling_17 : decode cX1_lowCeiling 17 = .ok (.istore_n 3, 1) := by decide +kernel
theorem dX1_lowCeiling_18 : decode cX1_lowCeiling 18 = .ok (.iload_n 3, 1) := by decide +kernel
theorem dX1_lowCeiling_19 : decode cX1_lowCeiling 19 = .ok (.aload_n 0, 1) := by decide +kernel
theorem dX1_lowCeiling_20 : decode cX1_lowCeiling 20 = .ok (.getfield 20, 3) := by decide +kernel
theorem dX1_lowCeiling_23 : decode cX1_lowCeiling 23 = .ok (.if_icmp .ge 31, 3) := by decide +kernel
theorem dX1_lowCeiling_26 : decode cX1_lowCeiling 26 = .ok (.aload_n 1, 1) := by decide +kernel
theorem dX1_lowCeiling_27 : decode cX1_lowCeiling 27 = .ok (.iload_n 3, 1) := by decide +kernel
theorem dX1_lowCeiling_28 : decode cX1_lowCeiling 28 = .ok (.invokevirtual 42, 3) := by decide +kernel
theorem dX1_lowCeiling_31 : decode cX1_lowCeiling 31 = .ok (.ifCond .eq 17, 3) := by decide +kernel
theorem dX1_lowCeiling_34 : decode cX1_lowCeiling 34 = .ok (.iload_n 2, 1) := by decide +kernel
theorem dX1_lowCeiling_35 : decode cX1_lowCeiling 35 = .ok (.aload_n 0, 1) := by decide +kernel
theorem dX1_lowCeiling_36 : decode cX1_lowCeiling 36 = .ok (.getfield 11, 3) := by decide +kernel
theorem dX1_lowCeiling_39 : decode cX1_lowCeiling 39 = .ok (.iload_n 3, 1) := by decide +kernel
theorem dX1_lowCeiling_40 : decode cX1_lowCeiling 40 = .ok (.aaload, 1) := by decide +kernel
theorem dX1_lowCeiling_41 : decode cX1_lowCeiling 41 = .ok (.getfield 93, 3) := by decide +kernel
theorem dX1_lowCeiling_44 : decode cX1_lowCeiling 44 = .ok (.invokestatic 118, 3) := by decide +kernel
theorem dX1_lowCeiling_47 : decode cX1_lowCeiling 47 = .ok (.istore_n 2, 1) := by decide +kernel
theorem dX1_lowCeiling_48 : decode cX1_lowCeiling 48 = .ok (.iinc 3 1, 3) := by decide +kernel
theorem dX1_lowCeiling_51 : decode cX1_lowCeiling 51 = .ok (.goto (-33), 3) := by decide +kernel
theorem dX1_lowCeiling_54 : decode cX1_lowCeiling 54 = .ok (.iload_n 2, 1) := by decide +kernel
theorem dX1_lowCeiling_55 : decode cX1_lowCeiling 55 = .ok (.ireturn, 1) := by decide +kernel
theorem dX1_lightNow_0 : decode cX1_lightNow 0 = .ok (.aload_n 1, 1) := by decide +kernel
theorem dX1_lightNow_1 : decode cX1_lightNow 1 = .ok (.getfield 131, 3) := by decide +kernel
theorem dX1_lightNow_4 : decode cX1_lightNow 4 = .ok (.tableswitch 88 1 3 #[28, 53, 74], 28) := by decide +kernel
theorem dX1_lightNow_32 : decode cX1_lightNow 32 = .ok (.aload_n 0, 1) := by decide +kernel
theorem dX1_lightNow_33 : decode cX1_lightNow 33 = .ok (.getfield 55, 3) := by decide +kernel
theorem dX1_lightNow_36 : decode cX1_lightNow 36 = .ok (.bipush 16, 2) := by decide +kernel
theorem dX1_lightNow_38 : decode cX1_lightNow 38 = .ok (.irem, 1) := by decide +kernel
theorem dX1_lightNow_39 : decode cX1_lightNow 39 = .ok (.iconst 4, 1) := by decide +kernel
theorem dX1_lightNow_40 : decode cX1_lightNow 40 = .ok (.if_icmp .ge 10, 3) := by decide +kernel
theorem dX1_lightNow_43 : decode cX1_lightNow 43 = .ok (.aload_n 1, 1) := by decide +kernel
theorem dX1_lightNow_44 : decode cX1_lightNow 44 = .ok (.getfield 134, 3) := by decide +kernel
theorem dX1_lightNow_47 : decode cX1_lightNow 47 = .ok (.goto 9, 3) := by decide +kernel
theorem dX1_lightNow_50 : decode cX1_lightNow 50 = .ok (.aload_n 1, 1) := by decide +kernel
theorem dX1_lightNow_51 : decode cX1_lightNow 51 = .ok (.getfield 134, 3) := by decide +kernel
theorem dX1_lightNow_54 : decode cX1_lightNow 54 = .ok (.iconst 2, 1) := by decide +kernel
theorem dX1_lightNow_55 : decode cX1_lightNow 55 = .ok (.idiv, 1) := by decide +kernel
theorem dX1_lightNow_56 : decode cX1_lightNow 56 = .ok (.ireturn, 1) := by decide +kernel
theorem dX1_lightNow_57 : decode cX1_lightNow 57 = .ok (.aload_n 0, 1) := by decide +kernel
theorem dX1_lightNow_58 : decode cX1_lightNow 58 = .ok (.getfield 55, 3) := by decide +kernel
theorem dX1_lightNow_61 : decode cX1_lightNow 61 = .ok (.bipush 32, 2) := by decide +kernel
theorem dX1_lightNow_63 : decode cX1_lightNow 63 = .ok (.idiv, 1) := by decide +kernel
theorem dX1_lightNow_64 : decode cX1_lightNow 64 = .ok (.iconst 2, 1) := by decide +kernel
theorem dX1_lightNow_65 : decode cX1_lightNow 65 = .ok (.irem, 1) := by decide +kernel
theorem dX1_lightNow_66 : decode cX1_lightNow 66 = .ok (.ifCond .ne 10, 3) := by decide +kernel
theorem dX1_lightNow_69 : decode cX1_lightNow 69 = .ok (.aload_n 1, 1) := by decide +kernel
theorem dX1_lightNow_70 : decode cX1_lightNow 70 = .ok (.getfield 134, 3) := by decide +kernel
theorem dX1_lightNow_73 : decode cX1_lightNow 73 = .ok (.goto 4, 3) := by decide +kernel
theorem dX1_lightNow_76 : decode cX1_lightNow 76 = .ok (.iconst 0, 1) := by decide +kernel
theorem dX1_lightNow_77 : decode cX1_lightNow 77 = .ok (.ireturn, 1) := by decide +kernel
theorem dX1_lightNow_78 : decode cX1_lightNow 78 = .ok (.iconst 0, 1) := by decide +kernel
theorem dX1_lightNow_79 : decode cX1_lightNow 79 = .ok (.aload_n 1, 1) := by decide +kernel
theorem dX1_lightNow_80 : decode cX1_lightNow 80 = .ok (.getfield 134, 3) := by decide +kernel
theorem dX1_lightNow_83 : decode cX1_lightNow 83 = .ok (.aload_n 0, 1) := by decide +kernel
theorem dX1_lightNow_84 : decode cX1_lightNow 84 = .ok (.getfield 58, 3) := by decide +kernel
theorem dX1_lightNow_87 : decode cX1_lightNow 87 = .ok (.isub, 1) := by decide +kernel
theorem dX1_lightNow_88 : decode cX1_lightNow 88 = .ok (.invokestatic 124, 3) := by decide +kernel
theorem dX1_lightNow_91 : decode cX1_lightNow 91 = .ok (.ireturn, 1) := by decide +kernel
theorem dX1_lightNow_92 : decode cX1_lightNow 92 = .ok (.aload_n 1, 1) := by decide +kernel
theorem dX1_lightNow_93 : decode cX1_lightNow 93 = .ok (.getfield 134, 3) := by decide +kernel
theorem dX1_lightNow_96 : decode cX1_lightNow 96 = .ok (.ireturn, 1) := by decide +kernel
set_option maxRecDepth 20000 in
theorem ggX1_start_X1_endOfWay : GoodIn wsX1_start wsX1_endOfWay := goodIn_r _ [6, 7, 8, 9, 10, 11, 12, 13, 14, 15, 16, 5, 17, 18, 19, 20, 21, 22, 23, 24, 25, 26, 27, 28, 29, 30, 31, 32, 33, 34, 35, 41, 42, 43, 44, 45, 46, 47, 48, 49, 50, 51, 52, 53, 54, 55, 56, 57, 58, 59, 60] (by decide +kernel) (by decide +kernel)
set_option maxRecDepth 20000 in
theorem gX1_start_X1_endOfWay : GoodIn wsX1_start (wsV RX1 140 RX1 yX1_endOfWay wsX1_endOfWay) := goodIn_app (goodIn_of _ (by decide +kernel)) ggX1_start_X1_endOfWay
set_option maxRecDepth 20000 in
theorem ggX1_start_X0_go : GoodIn wsX1_start wsX0_go := goodIn_r _ [38, 39, 40, 41, 42, 43, 44, 45, 46, 47, 48, 49, 50, 51, 52, 53] (by decide +kernel) (by decide +kernel)
set_option maxRecDepth 20000 in
theorem gX1_start_X0_go_n77 : GoodIn wsX1_start (wsX0_go) := ggX1_start_X0_go
theorem dX1_start_0 : decode cX1_start 0 = .ok (.aload_n 1, 1) := by decide +kernel
theorem dX1_start_1 : decode cX1_start 1 = .ok (.iload_n 2, 1) := by decide +kernel
theorem dX1_start_2 : decode cX1_start 2 = .ok (.putfield 67, 3) := by decide +kernel
theorem dX1_start_5 : decode cX1_start 5 = .ok (.aload_n 1, 1) := by decide +kernel
theorem dX1_start_6 : decode cX1_start 6 = .ok (.aload_n 1, 1) := by decide +kernel
theorem dX1_start_7 : decode cX1_start 7 = .ok (.getfield 90, 3) := by decide +kernel
theorem dX1_start_10 : decode cX1_start 10 = .ok (.putfield 137, 3) := by decide +kernel
theorem dX1_start_13 : decode cX1_start 13 = .ok (.aload_n 1, 1) := by decide +kernel
theorem dX1_start_14 : decode cX1_start 14 = .ok (.aload_n 0, 1) := by decide +kernel
theorem dX1_start_15 : decode cX1_start 15 = .ok (.aload_n 1, 1) := by decide +kernel
theorem dX1_start_16 : decode cX1_start 16 = .ok (.iload_n 2, 1) := by decide +kernel
theorem dX1_start_17 : decode cX1_start 17 = .ok (.invokevirtual 140, 3) := by decide +kernel
theorem dX1_start_20 : decode cX1_start 20 = .ok (.putfield 112, 3) := by decide +kernel
theorem dX1_start_23 : decode cX1_start 23 = .ok (.aload_n 1, 1) := by decide +kernel
theorem dX1_start_24 : decode cX1_start 24 = .ok (.iload_n 2, 1) := by decide +kernel
theorem dX1_start_25 : decode cX1_start 25 = .ok (.iconst 1, 1) := by decide +kernel
theorem dX1_start_26 : decode cX1_start 26 = .ok (.if_icmp .ne 7, 3) := by decide +kernel
theorem dX1_start_29 : decode cX1_start 29 = .ok (.iconst (-1), 1) := by decide +kernel
theorem dX1_start_30 : decode cX1_start 30 = .ok (.goto 4, 3) := by decide +kernel
theorem dX1_start_33 : decode cX1_start 33 = .ok (.iconst 1, 1) := by decide +kernel
theorem dX1_start_34 : decode cX1_start 34 = .ok (.invokevirtual 77, 3) := by decide +kernel
theorem dX1_start_37 : decode cX1_start 37 = .ok (.aload_n 0, 1) := by decide +kernel
theorem dX1_start_38 : decode cX1_start 38 = .ok (.dup, 1) := by decide +kernel
theorem dX1_start_39 : decode cX1_start 39 = .ok (.getfield 58, 3) := by decide +kernel
theorem dX1_start_42 : decode cX1_start 42 = .ok (.iconst 1, 1) := by decide +kernel
theorem dX1_start_43 : decode cX1_start 43 = .ok (.iadd, 1) := by decide +kernel
theorem dX1_start_44 : decode cX1_start 44 = .ok (.putfield 58, 3) := by decide +kernel
theorem dX1_start_47 : decode cX1_start 47 = .ok (.return_, 1) := by decide +kernel
set_option maxRecDepth 20000 in
theorem ggX1_endOfWay_X1_lowCeiling : GoodIn wsX1_endOfWay wsX1_lowCeiling := goodIn_r _ [12, 13, 14, 5, 6, 3, 7, 15, 16, 17, 18, 19, 20, 21, 22, 31, 32, 33, 34, 35, 36, 37, 38, 39, 40, 41, 42, 43, 44, 45, 46, 47, 48, 49, 50] (by decide +kernel) (by decide +kernel)
set_option maxRecDepth 20000 in
theorem gX1_endOfWay_X1_lowCeiling : GoodIn wsX1_endOfWay (wsV RX1 109 RX1 yX1_lowCeiling wsX1_lowCeiling) := goodIn_app (goodIn_of _ (by decide +kernel)) ggX1_endOfWay_X1_lowCeiling
set_option maxRecDepth 20000 in
theorem ggX1_endOfWay_X1_lowFloor : GoodIn wsX1_endOfWay wsX1_lowFloor := goodIn_r _ [26, 13, 14, 5, 6, 3, 7, 20, 16, 21, 22, 19, 31, 32, 33, 34, 35, 36, 37, 38, 39, 40, 41, 42, 43, 44, 45, 46, 47, 48, 49, 50] (by decide +kernel) (by decide +kernel)
set_option maxRecDepth 20000 in
theorem gX1_endOfWay_X1_lowFloor : GoodIn wsX1_endOfWay (wsV RX1 103 RX1 yX1_lowFloor wsX1_lowFloor) := goodIn_app (goodIn_of _ (by decide +kernel)) ggX1_endOfWay_X1_lowFloor
set_option maxRecDepth 20000 in
theorem ggX1_endOfWay_X1_highFloor : GoodIn wsX1_endOfWay wsX1_highFloor := goodIn_r _ [30, 13, 14, 1, 2, 3, 4, 20, 16, 21, 22, 19, 31, 32, 33, 34, 35, 36, 37, 38, 39, 40, 41, 42, 43, 44, 45, 46, 47, 48, 49, 50] (by decide +kernel) (by decide +kernel)
set_option maxRecDepth 20000 in
theorem gX1_endOfWay_X1_highFloor : GoodIn wsX1_endOfWay (wsV RX1 106 RX1 yX1_highFloor wsX1_highFloor) := goodIn_app (goodIn_of _ (by decide +kernel)) ggX1_endOfWay_X1_highFloor
theorem dX1_endOfWay_0 : decode cX1_endOfWay 0 = .ok (.iload_n 2, 1) := by decide +kernel
theorem dX1_endOfWay_1 : decode cX1_endOfWay 1 = .ok (.lookupswitch 48 #[(0, 27), (1, 42)], 27) := by decide +kernel
theorem dX1_endOfWay_28 : decode cX1_endOfWay 28 = .ok (.aload_n 0, 1) := by decide +kernel
theorem dX1_endOfWay_29 : decode cX1_endOfWay 29 = .ok (.aload_n 1, 1) := by decide +kernel
theorem dX1_endOfWay_30 : decode cX1_endOfWay 30 = .ok (.invokevirtual 109, 3) := by decide +kernel
theorem dX1_endOfWay_33 : decode cX1_endOfWay 33 = .ok (.iconst 4, 1) := by decide +kernel
theorem dX1_endOfWay_34 : decode cX1_endOfWay 34 = .ok (.isub, 1) := by decide +kernel
theorem dX1_endOfWay_35 : decode cX1_endOfWay 35 = .ok (.aload_n 1, 1) := by decide +kernel
theorem dX1_endOfWay_36 : decode cX1_endOfWay 36 = .ok (.getfield 93, 3) := by decide +kernel
theorem dX1_endOfWay_39 : decode cX1_endOfWay 39 = .ok (.invokestatic 124, 3) := by decide +kernel
theorem dX1_endOfWay_42 : decode cX1_endOfWay 42 = .ok (.ireturn, 1) := by decide +kernel
theorem dX1_endOfWay_43 : decode cX1_endOfWay 43 = .ok (.aload_n 0, 1) := by decide +kernel
theorem dX1_endOfWay_44 : decode cX1_endOfWay 44 = .ok (.aload_n 1, 1) := by decide +kernel
theorem dX1_endOfWay_45 : decode cX1_endOfWay 45 = .ok (.invokevirtual 103, 3) := by decide +kernel
theorem dX1_endOfWay_48 : decode cX1_endOfWay 48 = .ok (.ireturn, 1) := by decide +kernel
theorem dX1_endOfWay_49 : decode cX1_endOfWay 49 = .ok (.aload_n 0, 1) := by decide +kernel
theorem dX1_endOfWay_50 : decode cX1_endOfWay 50 = .ok (.aload_n 1, 1) := by decide +kernel
theorem dX1_endOfWay_51 : decode cX1_endOfWay 51 = .ok (.invokevirtual 106, 3) := by decide +kernel
theorem dX1_endOfWay_54 : decode cX1_endOfWay 54 = .ok (.aload_n 1, 1) := by decide +kernel
theorem dX1_endOfWay_55 : decode cX1_endOfWay 55 = .ok (.getfield 93, 3) := by decide +kernel
theorem dX1_endOfWay_58 : decode cX1_endOfWay 58 = .ok (.invokestatic 118, 3) := by decide +kernel
theorem dX1_endOfWay_61 : decode cX1_endOfWay 61 = .ok (.ireturn, 1) := by decide +kernel
set_option maxRecDepth 20000 in
theorem ggX1_finish_X0_dropMover : GoodIn wsX1_finish wsX0_dropMover := goodIn_r _ [5, 6, 7, 8, 9, 17, 18, 19, 20, 21, 22, 23, 24, 25, 26, 27, 28, 29] (by decide +kernel) (by decide +kernel)
set_option maxRecDepth 20000 in
theorem gX1_finish_X0_dropMover_n144 : GoodIn wsX1_finish (wsX0_dropMover) := ggX1_finish_X0_dropMover
theorem dX1_finish_0 : decode cX1_finish 0 = .ok (.aload_n 1, 1) := by decide +kernel
theorem dX1_finish_1 : decode cX1_finish 1 = .ok (.invokevirtual 144, 3) := by decide +kernel
theorem dX1_finish_4 : decode cX1_finish 4 = .ok (.aload_n 0, 1) := by decide +kernel
theorem dX1_finish_5 : decode cX1_finish 5 = .ok (.dup, 1) := by decide +kernel
theorem dX1_finish_6 : decode cX1_finish 6 = .ok (.getfield 58, 3) := by decide +kernel
theorem dX1_finish_9 : decode cX1_finish 9 = .ok (.iconst 1, 1) := by decide +kernel
theorem dX1_finish_10 : decode cX1_finish 10 = .ok (.isub, 1) := by decide +kernel
theorem dX1_finish_11 : decode cX1_finish 11 = .ok (.putfield 58, 3) := by decide +kernel
theorem dX1_finish_14 : decode cX1_finish 14 = .ok (.return_, 1) := by decide +kernel
set_option maxRecDepth 20000 in
theorem ggX1_passOneTick_X1_move : GoodIn wsX1_passOneTick wsX1_move := goodIn_r _ [10, 11, 12, 13, 14, 15, 16, 17, 18, 19, 20, 9, 21, 22, 23, 24, 25, 26, 27, 28, 29, 30, 31, 32, 33, 34, 35, 36, 37, 38, 39, 40, 2, 41, 42, 43, 44, 45, 46, 47, 48, 49, 50, 51, 52, 53, 54, 55, 63, 64, 65, 66, 67, 68, 69, 70, 71, 72, 73, 74, 75, 56, 57, 58, 59, 60, 61, 62] (by decide +kernel) (by decide +kernel)
set_option maxRecDepth 20000 in
theorem gX1_passOneTick_X1_move : GoodIn wsX1_passOneTick (wsV RX1 147 RX1 yX1_move wsX1_move) := goodIn_app (goodIn_of _ (by decide +kernel)) ggX1_passOneTick_X1_move
theorem dX1_passOneTick_0 : decode cX1_passOneTick 0 = .ok (.aload_n 0, 1) := by decide +kernel
theorem dX1_passOneTick_1 : decode cX1_passOneTick 1 = .ok (.dup, 1) := by decide +kernel
theorem dX1_passOneTick_2 : decode cX1_passOneTick 2 = .ok (.getfield 55, 3) := by decide +kernel
theorem dX1_passOneTick_5 : decode cX1_passOneTick 5 = .ok (.iconst 1, 1) := by decide +kernel
theorem dX1_passOneTick_6 : decode cX1_passOneTick 6 = .ok (.iadd, 1) := by decide +kernel
theorem dX1_passOneTick_7 : decode cX1_passOneTick 7 = .ok (.putfield 55, 3) := by decide +kernel
theorem dX1_passOneTick_10 : decode cX1_passOneTick 10 = .ok (.aload_n 0, 1) := by decide +kernel
theorem dX1_passOneTick_11 : decode cX1_passOneTick 11 = .ok (.getfield 58, 3) := by decide +kernel
theorem dX1_passOneTick_14 : decode cX1_passOneTick 14 = .ok (.ifCond .ne 4, 3) := by decide +kernel
theorem dX1_passOneTick_17 : decode cX1_passOneTick 17 = .ok (.return_, 1) := by decide +kernel
theorem dX1_passOneTick_18 : decode cX1_passOneTick 18 = .ok (.iconst 0, 1) := by decide +kernel
theorem dX1_passOneTick_19 : decode cX1_passOneTick 19 = .ok (.istore_n 1, 1) := by decide +kernel
theorem dX1_passOneTick_20 : decode cX1_passOneTick 20 = .ok (.iload_n 1, 1) := by decide +kernel
theorem dX1_passOneTick_21 : decode cX1_passOneTick 21 = .ok (.aload_n 0, 1) := by decide +kernel
theorem dX1_passOneTick_22 : decode cX1_passOneTick 22 = .ok (.getfield 20, 3) := by decide +kernel
theorem dX1_passOneTick_25 : decode cX1_passOneTick 25 = .ok (.if_icmp .ge 32, 3) := by decide +kernel
theorem dX1_passOneTick_28 : decode cX1_passOneTick 28 = .ok (.aload_n 0, 1) := by decide +kernel
theorem dX1_passOneTick_29 : decode cX1_passOneTick 29 = .ok (.aload_n 0, 1) := by decide +kernel
theorem dX1_passOneTick_30 : decode cX1_passOneTick 30 = .ok (.getfield 11, 3) := by decide +kernel
theorem dX1_passOneTick_33 : decode cX1_passOneTick 33 = .ok (.iload_n 1, 1) := by decide +kernel
theorem dX1_passOneTick_34 : decode cX1_passOneTick 34 = .ok (.aaload, 1) := by decide +kernel
theorem dX1_passOneTick_35 : decode cX1_passOneTick 35 = .ok (.iload_n 1, 1) := by decide +kernel
theorem dX1_passOneTick_36 : decode cX1_passOneTick 36 = .ok (.aload_n 0, 1) := by decide +kernel
theorem dX1_passOneTick_37 : decode cX1_passOneTick 37 = .ok (.getfield 16, 3) := by decide +kernel
theorem dX1_passOneTick_40 : decode cX1_passOneTick 40 = .ok (.if_icmp .ne 7, 3) := by decide +kernel
theorem dX1_passOneTick_43 : decode cX1_passOneTick 43 = .ok (.iconst 1, 1) := by decide +kernel
theorem dX1_passOneTick_44 : decode cX1_passOneTick 44 = .ok (.goto 4, 3) := by decide +kernel
theorem dX1_passOneTick_47 : decode cX1_passOneTick 47 = .ok (.iconst 0, 1) := by decide +kernel
theorem dX1_passOneTick_48 : decode cX1_passOneTick 48 = .ok (.invokevirtual 147, 3) := by decide +kernel
theorem dX1_passOneTick_51 : decode cX1_passOneTick 51 = .ok (.iinc 1 1, 3) := by decide +kernel
theorem dX1_passOneTick_54 : decode cX1_passOneTick 54 = .ok (.goto (-34), 3) := by decide +kernel
theorem dX1_passOneTick_57 : decode cX1_passOneTick 57 = .ok (.return_, 1) := by decide +kernel
set_option maxRecDepth 20000 in
theorem ggX1_move_X0_waitOneTick : GoodIn wsX1_move wsX0_waitOneTick := goodIn_r _ [4, 5, 6, 7, 48, 49, 50, 51, 52, 53, 54, 55, 56, 57, 58, 59, 60] (by decide +kernel) (by decide +kernel)
set_option maxRecDepth 20000 in
theorem gX1_move_X0_waitOneTick_n151 : GoodIn wsX1_move (wsX0_waitOneTick) := ggX1_move_X0_waitOneTick
set_option maxRecDepth 20000 in
theorem ggX1_move_X1_moveDoor : GoodIn wsX1_move wsX1_moveDoor := goodIn_r _ [12, 13, 14, 15, 16, 17, 18, 19, 11, 20, 21, 22, 23, 24, 25, 2, 26, 27, 7, 5, 28, 29, 30, 31, 32, 33, 34, 35, 6, 36, 37, 38, 39, 48, 49, 50, 51, 52, 53, 54, 55, 56, 57, 58, 59, 60, 61, 62, 63, 64, 65, 66, 67] (by decide +kernel) (by decide +kernel)
set_option maxRecDepth 20000 in
theorem gX1_move_X1_moveDoor : GoodIn wsX1_move (wsV RX1 154 RX1 yX1_moveDoor wsX1_moveDoor) := goodIn_app (goodIn_of _ (by decide +kernel)) ggX1_move_X1_moveDoor
set_option maxRecDepth 20000 in
theorem ggX1_move_X1_moveLift : GoodIn wsX1_move wsX1_moveLift := goodIn_r _ [43, 21, 22, 15, 23, 44, 45, 46, 11, 47, 13, 14, 16, 24, 28, 29, 30, 31, 32, 33, 2, 34, 35, 6, 36, 7, 5, 37, 38, 39, 48, 49, 50, 51, 52, 53, 54, 55, 56, 57, 58, 59, 60, 61, 62, 63, 64, 65, 66, 67] (by decide +kernel) (by decide +kernel)
set_option maxRecDepth 20000 in
theorem gX1_move_X1_moveLift : GoodIn wsX1_move (wsV RX1 157 RX1 yX1_moveLift wsX1_moveLift) := goodIn_app (goodIn_of _ (by decide +kernel)) ggX1_move_X1_moveLift
set_option maxRecDepth 20000 in
theorem ggX1_move_X1_raiseFloor : GoodIn wsX1_move wsX1_raiseFloor := goodIn_r _ [47, 13, 14, 15, 16, 24, 28, 29, 30, 11, 31, 32, 33, 2, 34, 35, 6, 36, 7, 5, 48, 49, 50, 51, 52, 53, 54, 55, 56, 57, 58, 59, 60, 61, 62, 63, 64, 65, 66, 67] (by decide +kernel) (by decide +kernel)
set_option maxRecDepth 20000 in
theorem gX1_move_X1_raiseFloor : GoodIn wsX1_move (wsV RX1 160 RX1 yX1_raiseFloor wsX1_raiseFloor) := goodIn_app (goodIn_of _ (by decide +kernel)) ggX1_move_X1_raiseFloor
theorem dX1_move_0 : decode cX1_move 0 = .ok (.aload_n 1, 1) := by decide +kernel
theorem dX1_move_1 : decode cX1_move 1 = .ok (.getfield 67, 3) := by decide +kernel
theorem dX1_move_4 : decode cX1_move 4 = .ok (.iconst (-1), 1) := by decide +kernel
theorem dX1_move_5 : decode cX1_move 5 = .ok (.if_icmp .ne 4, 3) := by decide +kernel
theorem dX1_move_8 : decode cX1_move 8 = .ok (.return_, 1) := by decide +kernel
theorem dX1_move_9 : decode cX1_move 9 = .ok (.aload_n 1, 1) := by decide +kernel
theorem dX1_move_10 : decode cX1_move 10 = .ok (.getfield 100, 3) := by decide +kernel
theorem dX1_move_13 : decode cX1_move 13 = .ok (.ifCond .le 8, 3) := by decide +kernel
theorem dX1_move_16 : decode cX1_move 16 = .ok (.aload_n 1, 1) := by decide +kernel
theorem dX1_move_17 : decode cX1_move 17 = .ok (.invokevirtual 151, 3) := by decide +kernel
theorem dX1_move_20 : decode cX1_move 20 = .ok (.return_, 1) := by decide +kernel
theorem dX1_move_21 : decode cX1_move 21 = .ok (.aload_n 1, 1) := by decide +kernel
theorem dX1_move_22 : decode cX1_move 22 = .ok (.getfield 67, 3) := by decide +kernel
theorem dX1_move_25 : decode cX1_move 25 = .ok (.lookupswitch 45 #[(0, 27), (1, 36)], 27) := by decide +kernel
theorem dX1_move_52 : decode cX1_move 52 = .ok (.aload_n 0, 1) := by decide +kernel
theorem dX1_move_53 : decode cX1_move 53 = .ok (.aload_n 1, 1) := by decide +kernel
theorem dX1_move_54 : decode cX1_move 54 = .ok (.iload_n 2, 1) := by decide +kernel
theorem dX1_move_55 : decode cX1_move 55 = .ok (.invokevirtual 154, 3) := by decide +kernel
theorem dX1_move_58 : decode cX1_move 58 = .ok (.goto 23, 3) := by decide +kernel
theorem dX1_move_61 : decode cX1_move 61 = .ok (.aload_n 0, 1) := by decide +kernel
theorem dX1_move_62 : decode cX1_move 62 = .ok (.aload_n 1, 1) := by decide +kernel
theorem dX1_move_63 : decode cX1_move 63 = .ok (.iload_n 2, 1) := by decide +kernel
theorem dX1_move_64 : decode cX1_move 64 = .ok (.invokevirtual 157, 3) := by decide +kernel
theorem dX1_move_67 : decode cX1_move 67 = .ok (.goto 14, 3) := by decide +kernel
theorem dX1_move_70 : decode cX1_move 70 = .ok (.aload_n 0, 1) := by decide +kernel
theorem dX1_move_71 : decode cX1_move 71 = .ok (.aload_n 1, 1) := by decide +kernel
theorem dX1_move_72 : decode cX1_move 72 = .ok (.iconst 2, 1) := by decide +kernel
theorem dX1_move_73 : decode cX1_move 73 = .ok (.aload_n 1, 1) := by decide +kernel
theorem dX1_move_74 : decode cX1_move 74 = .ok (.getfield 112, 3) := by decide +kernel
theorem dX1_move_77 : decode cX1_move 77 = .ok (.iload_n 2, 1) := by decide +kernel
theorem dX1_move_78 : decode cX1_move 78 = .ok (.invokevirtual 160, 3) := by decide +kernel
theorem dX1_move_81 : decode cX1_move 81 = .ok (.return_, 1) := by decide +kernel
set_option maxRecDepth 20000 in
theorem ggX1_moveDoor_X1_closeDoor : GoodIn wsX1_moveDoor wsX1_closeDoor := goodIn_r _ [9, 10, 11, 3, 12, 13, 14, 15, 16, 17, 18, 19, 20, 21, 22, 8, 23, 24, 25, 26, 27, 28, 29, 33, 34, 35, 36, 37, 38, 39, 40, 41, 42, 43, 44, 45, 46, 47, 48, 49, 50, 51, 52] (by decide +kernel) (by decide +kernel)
set_option maxRecDepth 20000 in
theorem gX1_moveDoor_X1_closeDoor : GoodIn wsX1_moveDoor (wsV RX1 164 RX1 yX1_closeDoor wsX1_closeDoor) := goodIn_app (goodIn_of _ (by decide +kernel)) ggX1_moveDoor_X1_closeDoor
set_option maxRecDepth 20000 in
theorem ggX1_moveDoor_X0_waitFor : GoodIn wsX1_moveDoor wsX0_waitFor := goodIn_r _ [32, 18, 19, 33, 34, 35, 36, 37, 38, 39, 40, 41, 42, 43, 44, 45] (by decide +kernel) (by decide +kernel)
set_option maxRecDepth 20000 in
theorem gX1_moveDoor_X0_waitFor_n167 : GoodIn wsX1_moveDoor (wsX0_waitFor) := ggX1_moveDoor_X0_waitFor
theorem dX1_moveDoor_0 : decode cX1_moveDoor 0 = .ok (.aload_n 1, 1) := by decide +kernel
theorem dX1_moveDoor_1 : decode cX1_moveDoor 1 = .ok (.getfield 74, 3) := by decide +kernel
theorem dX1_moveDoor_4 : decode cX1_moveDoor 4 = .ok (.iconst (-1), 1) := by decide +kernel
theorem dX1_moveDoor_5 : decode cX1_moveDoor 5 = .ok (.if_icmp .ne 10, 3) := by decide +kernel
theorem dX1_moveDoor_8 : decode cX1_moveDoor 8 = .ok (.aload_n 0, 1) := by decide +kernel
theorem dX1_moveDoor_9 : decode cX1_moveDoor 9 = .ok (.aload_n 1, 1) := by decide +kernel
theorem dX1_moveDoor_10 : decode cX1_moveDoor 10 = .ok (.iload_n 2, 1) := by decide +kernel
theorem dX1_moveDoor_11 : decode cX1_moveDoor 11 = .ok (.invokevirtual 164, 3) := by decide +kernel
theorem dX1_moveDoor_14 : decode cX1_moveDoor 14 = .ok (.return_, 1) := by decide +kernel
theorem dX1_moveDoor_15 : decode cX1_moveDoor 15 = .ok (.aload_n 1, 1) := by decide +kernel
theorem dX1_moveDoor_16 : decode cX1_moveDoor 16 = .ok (.aload_n 1, 1) := by decide +kernel
theorem dX1_moveDoor_17 : decode cX1_moveDoor 17 = .ok (.getfield 93, 3) := by decide +kernel
theorem dX1_moveDoor_20 : decode cX1_moveDoor 20 = .ok (.bipush 8, 2) := by decide +kernel
theorem dX1_moveDoor_22 : decode cX1_moveDoor 22 = .ok (.iadd, 1) := by decide +kernel
theorem dX1_moveDoor_23 : decode cX1_moveDoor 23 = .ok (.aload_n 1, 1) := by decide +kernel
theorem dX1_moveDoor_24 : decode cX1_moveDoor 24 = .ok (.getfield 112, 3) := by decide +kernel
theorem dX1_moveDoor_27 : decode cX1_moveDoor 27 = .ok (.invokestatic 118, 3) := by decide +kernel
theorem dX1_moveDoor_30 : decode cX1_moveDoor 30 = .ok (.putfield 93, 3) := by decide +kernel
theorem dX1_moveDoor_33 : decode cX1_moveDoor 33 = .ok (.aload_n 1, 1) := by decide +kernel
theorem dX1_moveDoor_34 : decode cX1_moveDoor 34 = .ok (.getfield 93, 3) := by decide +kernel
theorem dX1_moveDoor_37 : decode cX1_moveDoor 37 = .ok (.aload_n 1, 1) := by decide +kernel
theorem dX1_moveDoor_38 : decode cX1_moveDoor 38 = .ok (.getfield 112, 3) := by decide +kernel
theorem dX1_moveDoor_41 : decode cX1_moveDoor 41 = .ok (.if_icmp .ne 9, 3) := by decide +kernel
theorem dX1_moveDoor_44 : decode cX1_moveDoor 44 = .ok (.aload_n 1, 1) := by decide +kernel
theorem dX1_moveDoor_45 : decode cX1_moveDoor 45 = .ok (.bipush 20, 2) := by decide +kernel
theorem dX1_moveDoor_47 : decode cX1_moveDoor 47 = .ok (.invokevirtual 167, 3) := by decide +kernel
theorem dX1_moveDoor_50 : decode cX1_moveDoor 50 = .ok (.return_, 1) := by decide +kernel
set_option maxRecDepth 20000 in
theorem ggX1_closeDoor_X0_go : GoodIn wsX1_closeDoor wsX0_go := goodIn_r _ [9, 10, 11, 23, 24, 25, 26, 27, 28, 29, 30, 31, 32, 33, 34, 35] (by decide +kernel) (by decide +kernel)
set_option maxRecDepth 20000 in
theorem gX1_closeDoor_X0_go_n77 : GoodIn wsX1_closeDoor (wsX0_go) := ggX1_closeDoor_X0_go
set_option maxRecDepth 20000 in
theorem ggX1_closeDoor_X1_finish : GoodIn wsX1_closeDoor wsX1_finish := goodIn_r _ [16, 17, 18, 7, 19, 20, 21, 22, 10, 11, 36, 37, 38, 39, 40, 41, 42, 23, 24, 25, 26, 27, 28, 29, 30, 31, 32, 33, 34, 35] (by decide +kernel) (by decide +kernel)
set_option maxRecDepth 20000 in
theorem gX1_closeDoor_X1_finish : GoodIn wsX1_closeDoor (wsV RX1 170 RX1 yX1_finish wsX1_finish) := goodIn_app (goodIn_of _ (by decide +kernel)) ggX1_closeDoor_X1_finish
theorem dX1_closeDoor_0 : decode cX1_closeDoor 0 = .ok (.aload_n 1, 1) := by decide +kernel
theorem dX1_closeDoor_1 : decode cX1_closeDoor 1 = .ok (.getfield 93, 3) := by decide +kernel
theorem dX1_closeDoor_4 : decode cX1_closeDoor 4 = .ok (.bipush 8, 2) := by decide +kernel
theorem dX1_closeDoor_6 : decode cX1_closeDoor 6 = .ok (.isub, 1) := by decide +kernel
theorem dX1_closeDoor_7 : decode cX1_closeDoor 7 = .ok (.aload_n 1, 1) := by decide +kernel
theorem dX1_closeDoor_8 : decode cX1_closeDoor 8 = .ok (.getfield 90, 3) := by decide +kernel
theorem dX1_closeDoor_11 : decode cX1_closeDoor 11 = .ok (.invokestatic 124, 3) := by decide +kernel
theorem dX1_closeDoor_14 : decode cX1_closeDoor 14 = .ok (.istore_n 3, 1) := by decide +kernel
theorem dX1_closeDoor_15 : decode cX1_closeDoor 15 = .ok (.iload_n 2, 1) := by decide +kernel
theorem dX1_closeDoor_16 : decode cX1_closeDoor 16 = .ok (.ifCond .eq 30, 3) := by decide +kernel
theorem dX1_closeDoor_19 : decode cX1_closeDoor 19 = .ok (.iload_n 3, 1) := by decide +kernel
theorem dX1_closeDoor_20 : decode cX1_closeDoor 20 = .ok (.aload_n 1, 1) := by decide +kernel
theorem dX1_closeDoor_21 : decode cX1_closeDoor 21 = .ok (.getfield 90, 3) := by decide +kernel
theorem dX1_closeDoor_24 : decode cX1_closeDoor 24 = .ok (.isub, 1) := by decide +kernel
theorem dX1_closeDoor_25 : decode cX1_closeDoor 25 = .ok (.bipush 56, 2) := by decide +kernel
theorem dX1_closeDoor_27 : decode cX1_closeDoor 27 = .ok (.if_icmp .ge 19, 3) := by decide +kernel
theorem dX1_closeDoor_30 : decode cX1_closeDoor 30 = .ok (.aload_n 0, 1) := by decide +kernel
theorem dX1_closeDoor_31 : decode cX1_closeDoor 31 = .ok (.dup, 1) := by decide +kernel
theorem dX1_closeDoor_32 : decode cX1_closeDoor 32 = .ok (.getfield 61, 3) := by decide +kernel
theorem dX1_closeDoor_35 : decode cX1_closeDoor 35 = .ok (.iconst 1, 1) := by decide +kernel
theorem dX1_closeDoor_36 : decode cX1_closeDoor 36 = .ok (.iadd, 1) := by decide +kernel
theorem dX1_closeDoor_37 : decode cX1_closeDoor 37 = .ok (.putfield 61, 3) := by decide +kernel
theorem dX1_closeDoor_40 : decode cX1_closeDoor 40 = .ok (.aload_n 1, 1) := by decide +kernel
theorem dX1_closeDoor_41 : decode cX1_closeDoor 41 = .ok (.iconst 1, 1) := by decide +kernel
theorem dX1_closeDoor_42 : decode cX1_closeDoor 42 = .ok (.invokevirtual 77, 3) := by decide +kernel
theorem dX1_closeDoor_45 : decode cX1_closeDoor 45 = .ok (.return_, 1) := by decide +kernel
theorem dX1_closeDoor_46 : decode cX1_closeDoor 46 = .ok (.aload_n 1, 1) := by decide +kernel
theorem dX1_closeDoor_47 : decode cX1_closeDoor 47 = .ok (.iload_n 3, 1) := by decide +kernel
theorem dX1_closeDoor_48 : decode cX1_closeDoor 48 = .ok (.putfield 93, 3) := by decide +kernel
theorem dX1_closeDoor_51 : decode cX1_closeDoor 51 = .ok (.iload_n 3, 1) := by decide +kernel
theorem dX1_closeDoor_52 : decode cX1_closeDoor 52 = .ok (.aload_n 1, 1) := by decide +kernel
theorem dX1_closeDoor_53 : decode cX1_closeDoor 53 = .ok (.getfield 90, 3) := by decide +kernel
theorem dX1_closeDoor_56 : decode cX1_closeDoor 56 = .ok (.if_icmp .ne 8, 3) := by decide +kernel
theorem dX1_closeDoor_59 : decode cX1_closeDoor 59 = .ok (.aload_n 0, 1) := by decide +kernel
theorem dX1_closeDoor_60 : decode cX1_closeDoor 60 = .ok (.aload_n 1, 1) := by decide +kernel
theorem dX1_closeDoor_61 : decode cX1_closeDoor 61 = .ok (.invokevirtual 170, 3) := by decide +kernel
theorem dX1_closeDoor_64 : decode cX1_closeDoor 64 = .ok (.return_, 1) := by decide +kernel
set_option maxRecDepth 20000 in
theorem ggX1_moveLift_X1_raiseFloor : GoodIn wsX1_moveLift wsX1_raiseFloor := goodIn_r _ [9, 10, 11, 3, 12, 13, 14, 15, 16, 8, 17, 18, 19, 20, 21, 22, 23, 24, 25, 26, 30, 31, 32, 33, 34, 35, 36, 37, 38, 39, 40, 41, 42, 43, 44, 45, 46, 47, 48, 49] (by decide +kernel) (by decide +kernel)
set_option maxRecDepth 20000 in
theorem gX1_moveLift_X1_raiseFloor : GoodIn wsX1_moveLift (wsV RX1 160 RX1 yX1_raiseFloor wsX1_raiseFloor) := goodIn_app (goodIn_of _ (by decide +kernel)) ggX1_moveLift_X1_raiseFloor
set_option maxRecDepth 20000 in
theorem ggX1_moveLift_X0_waitFor : GoodIn wsX1_moveLift wsX0_waitFor := goodIn_r _ [29, 25, 26, 30, 31, 32, 33, 34, 35, 36, 37, 38, 39, 40, 41, 42] (by decide +kernel) (by decide +kernel)
set_option maxRecDepth 20000 in
theorem gX1_moveLift_X0_waitFor_n167 : GoodIn wsX1_moveLift (wsX0_waitFor) := ggX1_moveLift_X0_waitFor
theorem dX1_moveLift_0 : decode cX1_moveLift 0 = .ok (.aload_n 1, 1) := by decide +kernel
theorem dX1_moveLift_1 : decode cX1_moveLift 1 = .ok (.getfield 74, 3) := by decide +kernel
theorem dX1_moveLift_4 : decode cX1_moveLift 4 = .ok (.iconst 1, 1) := by decide +kernel
theorem dX1_moveLift_5 : decode cX1_moveLift 5 = .ok (.if_icmp .ne 15, 3) := by decide +kernel
theorem dX1_moveLift_8 : decode cX1_moveLift 8 = .ok (.aload_n 0, 1) := by decide +kernel
theorem dX1_moveLift_9 : decode cX1_moveLift 9 = .ok (.aload_n 1, 1) := by decide +kernel
theorem dX1_moveLift_10 : decode cX1_moveLift 10 = .ok (.iconst 4, 1) := by decide +kernel
theorem dX1_moveLift_11 : decode cX1_moveLift 11 = .ok (.aload_n 1, 1) := by decide +kernel
theorem dX1_moveLift_12 : decode cX1_moveLift 12 = .ok (.getfield 137, 3) := by decide +kernel
theorem dX1_moveLift_15 : decode cX1_moveLift 15 = .ok (.iload_n 2, 1) := by decide +kernel
theorem dX1_moveLift_16 : decode cX1_moveLift 16 = .ok (.invokevirtual 160, 3) := by decide +kernel
theorem dX1_moveLift_19 : decode cX1_moveLift 19 = .ok (.return_, 1) := by decide +kernel
theorem dX1_moveLift_20 : decode cX1_moveLift 20 = .ok (.aload_n 1, 1) := by decide +kernel
theorem dX1_moveLift_21 : decode cX1_moveLift 21 = .ok (.aload_n 1, 1) := by decide +kernel
theorem dX1_moveLift_22 : decode cX1_moveLift 22 = .ok (.getfield 90, 3) := by decide +kernel
theorem dX1_moveLift_25 : decode cX1_moveLift 25 = .ok (.iconst 4, 1) := by decide +kernel
theorem dX1_moveLift_26 : decode cX1_moveLift 26 = .ok (.isub, 1) := by decide +kernel
theorem dX1_moveLift_27 : decode cX1_moveLift 27 = .ok (.aload_n 1, 1) := by decide +kernel
theorem dX1_moveLift_28 : decode cX1_moveLift 28 = .ok (.getfield 112, 3) := by decide +kernel
theorem dX1_moveLift_31 : decode cX1_moveLift 31 = .ok (.invokestatic 124, 3) := by decide +kernel
theorem dX1_moveLift_34 : decode cX1_moveLift 34 = .ok (.putfield 90, 3) := by decide +kernel
theorem dX1_moveLift_37 : decode cX1_moveLift 37 = .ok (.aload_n 1, 1) := by decide +kernel
theorem dX1_moveLift_38 : decode cX1_moveLift 38 = .ok (.getfield 90, 3) := by decide +kernel
theorem dX1_moveLift_41 : decode cX1_moveLift 41 = .ok (.aload_n 1, 1) := by decide +kernel
theorem dX1_moveLift_42 : decode cX1_moveLift 42 = .ok (.getfield 112, 3) := by decide +kernel
theorem dX1_moveLift_45 : decode cX1_moveLift 45 = .ok (.if_icmp .ne 9, 3) := by decide +kernel
theorem dX1_moveLift_48 : decode cX1_moveLift 48 = .ok (.aload_n 1, 1) := by decide +kernel
theorem dX1_moveLift_49 : decode cX1_moveLift 49 = .ok (.bipush 30, 2) := by decide +kernel
theorem dX1_moveLift_51 : decode cX1_moveLift 51 = .ok (.invokevirtual 167, 3) := by decide +kernel
theorem dX1_moveLift_54 : decode cX1_moveLift 54 = .ok (.return_, 1) := by decide +kernel
set_option maxRecDepth 20000 in
theorem ggX1_raiseFloor_X1_finish : GoodIn wsX1_raiseFloor wsX1_finish := goodIn_r _ [10, 11, 12, 13, 14, 15, 16, 17, 18, 19, 33, 34, 35, 36, 37, 38, 39, 20, 21, 22, 23, 24, 25, 26, 27, 28, 29, 30, 31, 32] (by decide +kernel) (by decide +kernel)
set_option maxRecDepth 20000 in
theorem gX1_raiseFloor_X1_finish : GoodIn wsX1_raiseFloor (wsV RX1 170 RX1 yX1_finish wsX1_finish) := goodIn_app (goodIn_of _ (by decide +kernel)) ggX1_raiseFloor_X1_finish
theorem dX1_raiseFloor_0 : decode cX1_raiseFloor 0 = .ok (.aload_n 1, 1) := by decide +kernel
theorem dX1_raiseFloor_1 : decode cX1_raiseFloor 1 = .ok (.getfield 90, 3) := by decide +kernel
theorem dX1_raiseFloor_4 : decode cX1_raiseFloor 4 = .ok (.iload_n 2, 1) := by decide +kernel
theorem dX1_raiseFloor_5 : decode cX1_raiseFloor 5 = .ok (.iadd, 1) := by decide +kernel
theorem dX1_raiseFloor_6 : decode cX1_raiseFloor 6 = .ok (.iload_n 3, 1) := by decide +kernel
theorem dX1_raiseFloor_7 : decode cX1_raiseFloor 7 = .ok (.invokestatic 118, 3) := by decide +kernel
theorem dX1_raiseFloor_10 : decode cX1_raiseFloor 10 = .ok (.istore 5, 2) := by decide +kernel
theorem dX1_raiseFloor_12 : decode cX1_raiseFloor 12 = .ok (.iload 4, 2) := by decide +kernel
theorem dX1_raiseFloor_14 : decode cX1_raiseFloor 14 = .ok (.ifCond .eq 26, 3) := by decide +kernel
theorem dX1_raiseFloor_17 : decode cX1_raiseFloor 17 = .ok (.aload_n 1, 1) := by decide +kernel
theorem dX1_raiseFloor_18 : decode cX1_raiseFloor 18 = .ok (.getfield 93, 3) := by decide +kernel
theorem dX1_raiseFloor_21 : decode cX1_raiseFloor 21 = .ok (.iload 5, 2) := by decide +kernel
theorem dX1_raiseFloor_23 : decode cX1_raiseFloor 23 = .ok (.isub, 1) := by decide +kernel
theorem dX1_raiseFloor_24 : decode cX1_raiseFloor 24 = .ok (.bipush 56, 2) := by decide +kernel
theorem dX1_raiseFloor_26 : decode cX1_raiseFloor 26 = .ok (.if_icmp .ge 14, 3) := by decide +kernel
theorem dX1_raiseFloor_29 : decode cX1_raiseFloor 29 = .ok (.aload_n 0, 1) := by decide +kernel
theorem dX1_raiseFloor_30 : decode cX1_raiseFloor 30 = .ok (.dup, 1) := by decide +kernel
theorem dX1_raiseFloor_31 : decode cX1_raiseFloor 31 = .ok (.getfield 61, 3) := by decide +kernel
theorem dX1_raiseFloor_34 : decode cX1_raiseFloor 34 = .ok (.iconst 1, 1) := by decide +kernel
theorem dX1_raiseFloor_35 : decode cX1_raiseFloor 35 = .ok (.iadd, 1) := by decide +kernel
theorem dX1_raiseFloor_36 : decode cX1_raiseFloor 36 = .ok (.putfield 61, 3) := by decide +kernel
theorem dX1_raiseFloor_39 : decode cX1_raiseFloor 39 = .ok (.return_, 1) := by decide +kernel
theorem dX1_raiseFloor_40 : decode cX1_raiseFloor 40 = .ok (.aload_n 1, 1) := by decide +kernel
theorem dX1_raiseFloor_41 : decode cX1_raiseFloor 41 = .ok (.iload 5, 2) := by decide +kernel
theorem dX1_raiseFloor_43 : decode cX1_raiseFloor 43 = .ok (.putfield 90, 3) := by decide +kernel
theorem dX1_raiseFloor_46 : decode cX1_raiseFloor 46 = .ok (.iload 5, 2) := by decide +kernel
theorem dX1_raiseFloor_48 : decode cX1_raiseFloor 48 = .ok (.iload_n 3, 1) := by decide +kernel
theorem dX1_raiseFloor_49 : decode cX1_raiseFloor 49 = .ok (.if_icmp .ne 8, 3) := by decide +kernel
theorem dX1_raiseFloor_52 : decode cX1_raiseFloor 52 = .ok (.aload_n 0, 1) := by decide +kernel
theorem dX1_raiseFloor_53 : decode cX1_raiseFloor 53 = .ok (.aload_n 1, 1) := by decide +kernel
theorem dX1_raiseFloor_54 : decode cX1_raiseFloor 54 = .ok (.invokevirtual 170, 3) := by decide +kernel
theorem dX1_raiseFloor_57 : decode cX1_raiseFloor 57 = .ok (.return_, 1) := by decide +kernel
theorem dJ9_max_7cf53_0 : decode cJ9_max_7cf53 0 = .ok (.iload_n 0, 1) := by decide +kernel
theorem dJ9_max_7cf53_1 : decode cJ9_max_7cf53 1 = .ok (.iload_n 1, 1) := by decide +kernel
theorem dJ9_max_7cf53_2 : decode cJ9_max_7cf53 2 = .ok (.if_icmp .lt 7, 3) := by decide +kernel
theorem dJ9_max_7cf53_5 : decode cJ9_max_7cf53 5 = .ok (.iload_n 0, 1) := by decide +kernel
theorem dJ9_max_7cf53_6 : decode cJ9_max_7cf53 6 = .ok (.goto 4, 3) := by decide +kernel
theorem dJ9_max_7cf53_9 : decode cJ9_max_7cf53 9 = .ok (.iload_n 1, 1) := by decide +kernel
theorem dJ9_max_7cf53_10 : decode cJ9_max_7cf53 10 = .ok (.ireturn, 1) := by decide +kernel
theorem dJ9_min_7cf53_0 : decode cJ9_min_7cf53 0 = .ok (.iload_n 0, 1) := by decide +kernel
theorem dJ9_min_7cf53_1 : decode cJ9_min_7cf53 1 = .ok (.iload_n 1, 1) := by decide +kernel
theorem dJ9_min_7cf53_2 : decode cJ9_min_7cf53 2 = .ok (.if_icmp .gt 7, 3) := by decide +kernel
theorem dJ9_min_7cf53_5 : decode cJ9_min_7cf53 5 = .ok (.iload_n 0, 1) := by decide +kernel
theorem dJ9_min_7cf53_6 : decode cJ9_min_7cf53 6 = .ok (.goto 4, 3) := by decide +kernel
theorem dJ9_min_7cf53_9 : decode cJ9_min_7cf53 9 = .ok (.iload_n 1, 1) := by decide +kernel
theorem dJ9_min_7cf53_10 : decode cJ9_min_7cf53 10 = .ok (.ireturn, 1) := by decide +kernel
