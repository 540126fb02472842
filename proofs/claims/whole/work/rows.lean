section
-- ===== PART A: goes FIRST, ahead of the names: the tables' words, and 'selects' of the private methods out of them =====
/-- a private method of a class that the tables say can be made, by its rows of tables_1 -/
def lw_okq (q : MethodName × Nat) : Prop := (q.1.cls ≠ "java/lang/invoke/MethodHandle" ∧ q.1.cls ≠ "java/lang/invoke/VarHandle") ∧ Cond.instantiable q.1.cls q.2 ∈ tables_1 ∧ Cond.privateMethod q.1 ∈ tables_1 ∧ Cond.instanceMethod q.1 ∈ tables_1
theorem lw_p0 : lw_okq (⟨"MoverHall$Sector", "plan", "(IIIII)V"⟩, 13) := ⟨⟨by decide +kernel, by decide +kernel⟩, List.mem_of_getElem? (i := 15) (by decide +kernel), List.mem_of_getElem? (i := 102) (by decide +kernel), List.mem_of_getElem? (i := 103) (by decide +kernel)⟩
theorem lw_p1 : lw_okq (⟨"MoverHall$Sector", "goBackToPlan", "()V"⟩, 13) := ⟨⟨by decide +kernel, by decide +kernel⟩, List.mem_of_getElem? (i := 15) (by decide +kernel), List.mem_of_getElem? (i := 110) (by decide +kernel), List.mem_of_getElem? (i := 111) (by decide +kernel)⟩
theorem lw_p2 : lw_okq (⟨"MoverHall$Sector", "dropMover", "()V"⟩, 13) := ⟨⟨by decide +kernel, by decide +kernel⟩, List.mem_of_getElem? (i := 15) (by decide +kernel), List.mem_of_getElem? (i := 114) (by decide +kernel), List.mem_of_getElem? (i := 115) (by decide +kernel)⟩
theorem lw_p3 : lw_okq (⟨"MoverHall$Sector", "go", "(I)V"⟩, 13) := ⟨⟨by decide +kernel, by decide +kernel⟩, List.mem_of_getElem? (i := 15) (by decide +kernel), List.mem_of_getElem? (i := 118) (by decide +kernel), List.mem_of_getElem? (i := 119) (by decide +kernel)⟩
theorem lw_p4 : lw_okq (⟨"MoverHall", "isSector", "(I)Z"⟩, 7) := ⟨⟨by decide +kernel, by decide +kernel⟩, List.mem_of_getElem? (i := 6) (by decide +kernel), List.mem_of_getElem? (i := 126) (by decide +kernel), List.mem_of_getElem? (i := 127) (by decide +kernel)⟩
theorem lw_p5 : lw_okq (⟨"MoverHall$Sector", "hasNeighbour", "(I)Z"⟩, 13) := ⟨⟨by decide +kernel, by decide +kernel⟩, List.mem_of_getElem? (i := 15) (by decide +kernel), List.mem_of_getElem? (i := 130) (by decide +kernel), List.mem_of_getElem? (i := 131) (by decide +kernel)⟩
theorem lw_p6 : lw_okq (⟨"MoverHall$Sector", "addNeighbour", "(I)V"⟩, 13) := ⟨⟨by decide +kernel, by decide +kernel⟩, List.mem_of_getElem? (i := 15) (by decide +kernel), List.mem_of_getElem? (i := 134) (by decide +kernel), List.mem_of_getElem? (i := 135) (by decide +kernel)⟩
theorem lw_p7 : lw_okq (⟨"MoverHall", "start", "(LMoverHall$Sector;I)V"⟩, 7) := ⟨⟨by decide +kernel, by decide +kernel⟩, List.mem_of_getElem? (i := 6) (by decide +kernel), List.mem_of_getElem? (i := 150) (by decide +kernel), List.mem_of_getElem? (i := 151) (by decide +kernel)⟩
theorem lw_p8 : lw_okq (⟨"MoverHall", "endOfWay", "(LMoverHall$Sector;I)I"⟩, 7) := ⟨⟨by decide +kernel, by decide +kernel⟩, List.mem_of_getElem? (i := 6) (by decide +kernel), List.mem_of_getElem? (i := 154) (by decide +kernel), List.mem_of_getElem? (i := 155) (by decide +kernel)⟩
theorem lw_p9 : lw_okq (⟨"MoverHall", "lowCeiling", "(LMoverHall$Sector;)I"⟩, 7) := ⟨⟨by decide +kernel, by decide +kernel⟩, List.mem_of_getElem? (i := 6) (by decide +kernel), List.mem_of_getElem? (i := 158) (by decide +kernel), List.mem_of_getElem? (i := 159) (by decide +kernel)⟩
theorem lw_p10 : lw_okq (⟨"MoverHall$Sector", "hasNeighbours", "()Z"⟩, 13) := ⟨⟨by decide +kernel, by decide +kernel⟩, List.mem_of_getElem? (i := 15) (by decide +kernel), List.mem_of_getElem? (i := 162) (by decide +kernel), List.mem_of_getElem? (i := 163) (by decide +kernel)⟩
theorem lw_p11 : lw_okq (⟨"MoverHall", "lowFloor", "(LMoverHall$Sector;)I"⟩, 7) := ⟨⟨by decide +kernel, by decide +kernel⟩, List.mem_of_getElem? (i := 6) (by decide +kernel), List.mem_of_getElem? (i := 172) (by decide +kernel), List.mem_of_getElem? (i := 173) (by decide +kernel)⟩
theorem lw_p12 : lw_okq (⟨"MoverHall", "highFloor", "(LMoverHall$Sector;)I"⟩, 7) := ⟨⟨by decide +kernel, by decide +kernel⟩, List.mem_of_getElem? (i := 6) (by decide +kernel), List.mem_of_getElem? (i := 176) (by decide +kernel), List.mem_of_getElem? (i := 177) (by decide +kernel)⟩
theorem lw_p13 : lw_okq (⟨"MoverHall", "passOneTick", "()V"⟩, 7) := ⟨⟨by decide +kernel, by decide +kernel⟩, List.mem_of_getElem? (i := 6) (by decide +kernel), List.mem_of_getElem? (i := 194) (by decide +kernel), List.mem_of_getElem? (i := 195) (by decide +kernel)⟩
theorem lw_p14 : lw_okq (⟨"MoverHall", "move", "(LMoverHall$Sector;Z)V"⟩, 7) := ⟨⟨by decide +kernel, by decide +kernel⟩, List.mem_of_getElem? (i := 6) (by decide +kernel), List.mem_of_getElem? (i := 198) (by decide +kernel), List.mem_of_getElem? (i := 199) (by decide +kernel)⟩
theorem lw_p15 : lw_okq (⟨"MoverHall$Sector", "waitOneTick", "()V"⟩, 13) := ⟨⟨by decide +kernel, by decide +kernel⟩, List.mem_of_getElem? (i := 15) (by decide +kernel), List.mem_of_getElem? (i := 202) (by decide +kernel), List.mem_of_getElem? (i := 203) (by decide +kernel)⟩
def lw_privs_1 : List (MethodName × Nat) := [(⟨"MoverHall$Sector", "plan", "(IIIII)V"⟩, 13), (⟨"MoverHall$Sector", "goBackToPlan", "()V"⟩, 13), (⟨"MoverHall$Sector", "dropMover", "()V"⟩, 13), (⟨"MoverHall$Sector", "go", "(I)V"⟩, 13), (⟨"MoverHall", "isSector", "(I)Z"⟩, 7), (⟨"MoverHall$Sector", "hasNeighbour", "(I)Z"⟩, 13), (⟨"MoverHall$Sector", "addNeighbour", "(I)V"⟩, 13), (⟨"MoverHall", "start", "(LMoverHall$Sector;I)V"⟩, 7), (⟨"MoverHall", "endOfWay", "(LMoverHall$Sector;I)I"⟩, 7), (⟨"MoverHall", "lowCeiling", "(LMoverHall$Sector;)I"⟩, 7), (⟨"MoverHall$Sector", "hasNeighbours", "()Z"⟩, 13), (⟨"MoverHall", "lowFloor", "(LMoverHall$Sector;)I"⟩, 7), (⟨"MoverHall", "highFloor", "(LMoverHall$Sector;)I"⟩, 7), (⟨"MoverHall", "passOneTick", "()V"⟩, 7), (⟨"MoverHall", "move", "(LMoverHall$Sector;Z)V"⟩, 7), (⟨"MoverHall$Sector", "waitOneTick", "()V"⟩, 13)]
theorem lw_r1 : ∀ q ∈ lw_privs_1, lw_okq q := List.forall_mem_cons.mpr ⟨lw_p0, List.forall_mem_cons.mpr ⟨lw_p1, List.forall_mem_cons.mpr ⟨lw_p2, List.forall_mem_cons.mpr ⟨lw_p3, List.forall_mem_cons.mpr ⟨lw_p4, List.forall_mem_cons.mpr ⟨lw_p5, List.forall_mem_cons.mpr ⟨lw_p6, List.forall_mem_cons.mpr ⟨lw_p7, List.forall_mem_cons.mpr ⟨lw_p8, List.forall_mem_cons.mpr ⟨lw_p9, List.forall_mem_cons.mpr ⟨lw_p10, List.forall_mem_cons.mpr ⟨lw_p11, List.forall_mem_cons.mpr ⟨lw_p12, List.forall_mem_cons.mpr ⟨lw_p13, List.forall_mem_cons.mpr ⟨lw_p14, List.forall_mem_cons.mpr ⟨lw_p15, fun _ h => absurd h List.not_mem_nil⟩⟩⟩⟩⟩⟩⟩⟩⟩⟩⟩⟩⟩⟩⟩⟩
theorem lw_p16 : lw_okq (⟨"MoverHall", "moveDoor", "(LMoverHall$Sector;Z)V"⟩, 7) := ⟨⟨by decide +kernel, by decide +kernel⟩, List.mem_of_getElem? (i := 6) (by decide +kernel), List.mem_of_getElem? (i := 206) (by decide +kernel), List.mem_of_getElem? (i := 207) (by decide +kernel)⟩
theorem lw_p17 : lw_okq (⟨"MoverHall", "closeDoor", "(LMoverHall$Sector;Z)V"⟩, 7) := ⟨⟨by decide +kernel, by decide +kernel⟩, List.mem_of_getElem? (i := 6) (by decide +kernel), List.mem_of_getElem? (i := 210) (by decide +kernel), List.mem_of_getElem? (i := 211) (by decide +kernel)⟩
theorem lw_p18 : lw_okq (⟨"MoverHall", "finish", "(LMoverHall$Sector;)V"⟩, 7) := ⟨⟨by decide +kernel, by decide +kernel⟩, List.mem_of_getElem? (i := 6) (by decide +kernel), List.mem_of_getElem? (i := 214) (by decide +kernel), List.mem_of_getElem? (i := 215) (by decide +kernel)⟩
theorem lw_p19 : lw_okq (⟨"MoverHall$Sector", "waitFor", "(I)V"⟩, 13) := ⟨⟨by decide +kernel, by decide +kernel⟩, List.mem_of_getElem? (i := 15) (by decide +kernel), List.mem_of_getElem? (i := 219) (by decide +kernel), List.mem_of_getElem? (i := 220) (by decide +kernel)⟩
theorem lw_p20 : lw_okq (⟨"MoverHall", "moveLift", "(LMoverHall$Sector;Z)V"⟩, 7) := ⟨⟨by decide +kernel, by decide +kernel⟩, List.mem_of_getElem? (i := 6) (by decide +kernel), List.mem_of_getElem? (i := 223) (by decide +kernel), List.mem_of_getElem? (i := 224) (by decide +kernel)⟩
theorem lw_p21 : lw_okq (⟨"MoverHall", "raiseFloor", "(LMoverHall$Sector;IIZ)V"⟩, 7) := ⟨⟨by decide +kernel, by decide +kernel⟩, List.mem_of_getElem? (i := 6) (by decide +kernel), List.mem_of_getElem? (i := 227) (by decide +kernel), List.mem_of_getElem? (i := 228) (by decide +kernel)⟩
theorem lw_p22 : lw_okq (⟨"MoverHall", "lightNow", "(LMoverHall$Sector;)I"⟩, 7) := ⟨⟨by decide +kernel, by decide +kernel⟩, List.mem_of_getElem? (i := 6) (by decide +kernel), List.mem_of_getElem? (i := 236) (by decide +kernel), List.mem_of_getElem? (i := 237) (by decide +kernel)⟩
theorem lw_p23 : lw_okq (⟨"MoverHallModel", "isSector", "(I)Z"⟩, 19) := ⟨⟨by decide +kernel, by decide +kernel⟩, List.mem_of_getElem? (i := 253) (by decide +kernel), List.mem_of_getElem? (i := 331) (by decide +kernel), List.mem_of_getElem? (i := 332) (by decide +kernel)⟩
theorem lw_p24 : lw_okq (⟨"MoverHallModel", "lowCeiling", "(I)I"⟩, 19) := ⟨⟨by decide +kernel, by decide +kernel⟩, List.mem_of_getElem? (i := 253) (by decide +kernel), List.mem_of_getElem? (i := 344) (by decide +kernel), List.mem_of_getElem? (i := 345) (by decide +kernel)⟩
theorem lw_p25 : lw_okq (⟨"MoverHallModel", "highFloor", "(I)I"⟩, 19) := ⟨⟨by decide +kernel, by decide +kernel⟩, List.mem_of_getElem? (i := 253) (by decide +kernel), List.mem_of_getElem? (i := 349) (by decide +kernel), List.mem_of_getElem? (i := 350) (by decide +kernel)⟩
theorem lw_p26 : lw_okq (⟨"MoverHallModel", "lowFloor", "(I)I"⟩, 19) := ⟨⟨by decide +kernel, by decide +kernel⟩, List.mem_of_getElem? (i := 253) (by decide +kernel), List.mem_of_getElem? (i := 353) (by decide +kernel), List.mem_of_getElem? (i := 354) (by decide +kernel)⟩
theorem lw_p27 : lw_okq (⟨"MoverHallModel", "step", "(I)V"⟩, 19) := ⟨⟨by decide +kernel, by decide +kernel⟩, List.mem_of_getElem? (i := 253) (by decide +kernel), List.mem_of_getElem? (i := 370) (by decide +kernel), List.mem_of_getElem? (i := 371) (by decide +kernel)⟩
theorem lw_p28 : lw_okq (⟨"MoverHallModel", "stepDoor", "(I)V"⟩, 19) := ⟨⟨by decide +kernel, by decide +kernel⟩, List.mem_of_getElem? (i := 253) (by decide +kernel), List.mem_of_getElem? (i := 374) (by decide +kernel), List.mem_of_getElem? (i := 375) (by decide +kernel)⟩
theorem lw_p29 : lw_okq (⟨"MoverHallModel", "await", "(II)V"⟩, 19) := ⟨⟨by decide +kernel, by decide +kernel⟩, List.mem_of_getElem? (i := 253) (by decide +kernel), List.mem_of_getElem? (i := 378) (by decide +kernel), List.mem_of_getElem? (i := 379) (by decide +kernel)⟩
theorem lw_p30 : lw_okq (⟨"MoverHallModel", "end", "(I)V"⟩, 19) := ⟨⟨by decide +kernel, by decide +kernel⟩, List.mem_of_getElem? (i := 253) (by decide +kernel), List.mem_of_getElem? (i := 382) (by decide +kernel), List.mem_of_getElem? (i := 383) (by decide +kernel)⟩
theorem lw_p31 : lw_okq (⟨"MoverHallModel", "rise", "(III)V"⟩, 19) := ⟨⟨by decide +kernel, by decide +kernel⟩, List.mem_of_getElem? (i := 253) (by decide +kernel), List.mem_of_getElem? (i := 386) (by decide +kernel), List.mem_of_getElem? (i := 387) (by decide +kernel)⟩
def lw_privs_2 : List (MethodName × Nat) := [(⟨"MoverHall", "moveDoor", "(LMoverHall$Sector;Z)V"⟩, 7), (⟨"MoverHall", "closeDoor", "(LMoverHall$Sector;Z)V"⟩, 7), (⟨"MoverHall", "finish", "(LMoverHall$Sector;)V"⟩, 7), (⟨"MoverHall$Sector", "waitFor", "(I)V"⟩, 13), (⟨"MoverHall", "moveLift", "(LMoverHall$Sector;Z)V"⟩, 7), (⟨"MoverHall", "raiseFloor", "(LMoverHall$Sector;IIZ)V"⟩, 7), (⟨"MoverHall", "lightNow", "(LMoverHall$Sector;)I"⟩, 7), (⟨"MoverHallModel", "isSector", "(I)Z"⟩, 19), (⟨"MoverHallModel", "lowCeiling", "(I)I"⟩, 19), (⟨"MoverHallModel", "highFloor", "(I)I"⟩, 19), (⟨"MoverHallModel", "lowFloor", "(I)I"⟩, 19), (⟨"MoverHallModel", "step", "(I)V"⟩, 19), (⟨"MoverHallModel", "stepDoor", "(I)V"⟩, 19), (⟨"MoverHallModel", "await", "(II)V"⟩, 19), (⟨"MoverHallModel", "end", "(I)V"⟩, 19), (⟨"MoverHallModel", "rise", "(III)V"⟩, 19)]
theorem lw_r2 : ∀ q ∈ lw_privs_2, lw_okq q := List.forall_mem_cons.mpr ⟨lw_p16, List.forall_mem_cons.mpr ⟨lw_p17, List.forall_mem_cons.mpr ⟨lw_p18, List.forall_mem_cons.mpr ⟨lw_p19, List.forall_mem_cons.mpr ⟨lw_p20, List.forall_mem_cons.mpr ⟨lw_p21, List.forall_mem_cons.mpr ⟨lw_p22, List.forall_mem_cons.mpr ⟨lw_p23, List.forall_mem_cons.mpr ⟨lw_p24, List.forall_mem_cons.mpr ⟨lw_p25, List.forall_mem_cons.mpr ⟨lw_p26, List.forall_mem_cons.mpr ⟨lw_p27, List.forall_mem_cons.mpr ⟨lw_p28, List.forall_mem_cons.mpr ⟨lw_p29, List.forall_mem_cons.mpr ⟨lw_p30, List.forall_mem_cons.mpr ⟨lw_p31, fun _ h => absurd h List.not_mem_nil⟩⟩⟩⟩⟩⟩⟩⟩⟩⟩⟩⟩⟩⟩⟩⟩
theorem lw_p32 : lw_okq (⟨"MoverHallModel", "lightOf", "(I)I"⟩, 19) := ⟨⟨by decide +kernel, by decide +kernel⟩, List.mem_of_getElem? (i := 253) (by decide +kernel), List.mem_of_getElem? (i := 394) (by decide +kernel), List.mem_of_getElem? (i := 395) (by decide +kernel)⟩
theorem lw_p33 : lw_okq (⟨"MoverHallModel", "many", "()I"⟩, 19) := ⟨⟨by decide +kernel, by decide +kernel⟩, List.mem_of_getElem? (i := 253) (by decide +kernel), List.mem_of_getElem? (i := 398) (by decide +kernel), List.mem_of_getElem? (i := 399) (by decide +kernel)⟩
def lw_privs_3 : List (MethodName × Nat) := [(⟨"MoverHallModel", "lightOf", "(I)I"⟩, 19), (⟨"MoverHallModel", "many", "()I"⟩, 19)]
theorem lw_r3 : ∀ q ∈ lw_privs_3, lw_okq q := List.forall_mem_cons.mpr ⟨lw_p32, List.forall_mem_cons.mpr ⟨lw_p33, fun _ h => absurd h List.not_mem_nil⟩⟩
def lw_privs : List (MethodName × Nat) := lw_privs_1 ++ (lw_privs_2 ++ (lw_privs_3))
def lw_tbl : List Cond := k2_sels lw_privs ++ tables_1
theorem lw_privs_ok : ∀ q ∈ lw_privs, lw_okq q := by
  show ∀ q ∈ lw_privs_1 ++ (lw_privs_2 ++ (lw_privs_3)), lw_okq q
  exact List.forall_mem_append.mpr ⟨lw_r1, List.forall_mem_append.mpr ⟨lw_r2, lw_r3⟩⟩
/-! ===== BEGIN words of one list among another's, by their places ===== -/
theorem goodIn_r {big : List Cond} (ws : List Cond) (ps : List Nat) (hp : ws = ps.filterMap (fun i => big[i]?)) (h : ws.all goodWord = true) : GoodIn big ws := by
  intro w hw
  have h1 := List.all_eq_true.mp h w hw
  rw [hp] at hw
  obtain ⟨i, -, hi⟩ := List.mem_filterMap.mp hw
  have hm : w ∈ big := by first | exact List.mem_of_getElem? hi | exact List.getElem?_mem hi
  exact ⟨hm, good_of_word h1⟩
theorem goodIn_app {big a b : List Cond} (ha : GoodIn big a) (hb : GoodIn big b) : GoodIn big (a ++ b) := fun w h => (List.mem_append.mp h).elim (ha w) (hb w)
theorem goodIn_ca {big a b : List Cond} {c : Cond} (ha : GoodIn big (c :: a)) (hb : GoodIn big b) : GoodIn big (c :: (a ++ b)) := fun w h => (List.mem_cons.mp h).elim (fun e => ha w (List.mem_cons.mpr (Or.inl e))) (fun h => (List.mem_append.mp h).elim (fun h => ha w (List.mem_cons.mpr (Or.inr h))) (hb w))
theorem goodIn_sub {big ws : List Cond} (hm : ∀ w ∈ ws, w ∈ big) (h : ws.all goodWord = true) : GoodIn big ws := fun w hw => ⟨hm w hw, good_of_word (List.all_eq_true.mp h w hw)⟩
/-! ===== END ===== -/

/-! ===== BEGIN printed: names, fields, word lists, decode rows ===== -/
def RX0 : String := "MoverHall$Sector"
def TX0 : u_T := fun k => match k with
  | 0 => ("MoverHall$Sector", "plannedFloor", "I", false)
  | 1 => ("MoverHall$Sector", "plannedCeiling", "I", false)
  | 2 => ("MoverHall$Sector", "light", "I", false)
  | 3 => ("MoverHall$Sector", "kind", "I", false)
  | 4 => ("MoverHall$Sector", "tag", "I", false)
  | 5 => ("MoverHall$Sector", "neighbours", "I", false)
  | 6 => ("MoverHall$Sector", "floor", "I", false)
  | 7 => ("MoverHall$Sector", "ceiling", "I", false)
  | 8 => ("MoverHall$Sector", "mover", "I", false)
  | 9 => ("MoverHall$Sector", "way", "I", false)
  | 10 => ("MoverHall$Sector", "waitLeft", "I", false)
  | 11 => ("MoverHall$Sector", "wayEnd", "I", false)
  | _ => ("MoverHall$Sector", "startFloor", "I", false)
def tyX0 : Nat → FieldType := fun k => match k with
  | 0 => .int
  | 1 => .int
  | 2 => .int
  | 3 => .int
  | 4 => .int
  | 5 => .int
  | 6 => .int
  | 7 => .int
  | 8 => .int
  | 9 => .int
  | 10 => .int
  | 11 => .int
  | _ => .int
abbrev wsX00 : List Cond := u_ws RX0 TX0 13
theorem nmX0 : ∀ a, a < 13 → ∀ b, b < 13 → a ≠ b → (TX0 a).2.1 ≠ (TX0 b).2.1 := by decide +kernel
theorem tyX0_ok : ∀ k, k < 13 → parseFieldDescriptor (TX0 k).2.2.1 = some (tyX0 k) := by decide +kernel
abbrev cX0_init : ByteArray := prog_2_method_1_code
def yX0_init : MethodName := ⟨RX0, "<init>", "()V"⟩
abbrev cX0_plan : ByteArray := prog_2_method_2_code
def yX0_plan : MethodName := ⟨RX0, "plan", "(IIIII)V"⟩
abbrev cX0_goBackToPlan : ByteArray := prog_2_method_3_code
def yX0_goBackToPlan : MethodName := ⟨RX0, "goBackToPlan", "()V"⟩
abbrev cX0_dropMover : ByteArray := prog_2_method_4_code
def yX0_dropMover : MethodName := ⟨RX0, "dropMover", "()V"⟩
abbrev cX0_hasNeighbour : ByteArray := prog_2_method_5_code
def yX0_hasNeighbour : MethodName := ⟨RX0, "hasNeighbour", "(I)Z"⟩
abbrev cX0_hasNeighbours : ByteArray := prog_2_method_6_code
def yX0_hasNeighbours : MethodName := ⟨RX0, "hasNeighbours", "()Z"⟩
abbrev cX0_addNeighbour : ByteArray := prog_2_method_7_code
def yX0_addNeighbour : MethodName := ⟨RX0, "addNeighbour", "(I)V"⟩
abbrev cX0_go : ByteArray := prog_2_method_8_code
def yX0_go : MethodName := ⟨RX0, "go", "(I)V"⟩
abbrev cX0_waitFor : ByteArray := prog_2_method_9_code
def yX0_waitFor : MethodName := ⟨RX0, "waitFor", "(I)V"⟩
abbrev cX0_waitOneTick : ByteArray := prog_2_method_10_code
def yX0_waitOneTick : MethodName := ⟨RX0, "waitOneTick", "()V"⟩
def RX1 : String := "MoverHall"
def TX1 : u_T := fun k => match k with
  | 0 => ("MoverHall", "sectors", "[LMoverHall$Sector;", true)
  | 1 => ("MoverHall", "sectorCount", "I", false)
  | 2 => ("MoverHall", "pairCount", "I", false)
  | 3 => ("MoverHall", "tickCount", "I", false)
  | 4 => ("MoverHall", "moverCount", "I", false)
  | 5 => ("MoverHall", "blockedCount", "I", false)
  | _ => ("MoverHall", "guestSector", "I", false)
def tyX1 : Nat → FieldType := fun k => match k with
  | 0 => .array (.object "MoverHall$Sector")
  | 1 => .int
  | 2 => .int
  | 3 => .int
  | 4 => .int
  | 5 => .int
  | _ => .int
abbrev wsX10 : List Cond := u_ws RX1 TX1 7
theorem nmX1 : ∀ a, a < 7 → ∀ b, b < 7 → a ≠ b → (TX1 a).2.1 ≠ (TX1 b).2.1 := by decide +kernel
theorem tyX1_ok : ∀ k, k < 7 → parseFieldDescriptor (TX1 k).2.2.1 = some (tyX1 k) := by decide +kernel
abbrev cX1_init : ByteArray := prog_1_method_1_code
def yX1_init : MethodName := ⟨RX1, "<init>", "()V"⟩
abbrev cX1_sector : ByteArray := prog_1_method_2_code
def yX1_sector : MethodName := ⟨RX1, "sector", "(IIIII)I"⟩
abbrev cX1_join : ByteArray := prog_1_method_3_code
def yX1_join : MethodName := ⟨RX1, "join", "(II)Z"⟩
abbrev cX1_reset : ByteArray := prog_1_method_4_code
def yX1_reset : MethodName := ⟨RX1, "reset", "()V"⟩
abbrev cX1_clear : ByteArray := prog_1_method_5_code
def yX1_clear : MethodName := ⟨RX1, "clear", "()V"⟩
abbrev cX1_begin : ByteArray := prog_1_method_6_code
def yX1_begin : MethodName := ⟨RX1, "begin", "(II)Z"⟩
abbrev cX1_tag : ByteArray := prog_1_method_7_code
def yX1_tag : MethodName := ⟨RX1, "tag", "(II)I"⟩
abbrev cX1_enter : ByteArray := prog_1_method_8_code
def yX1_enter : MethodName := ⟨RX1, "enter", "(I)Z"⟩
abbrev cX1_ticks : ByteArray := prog_1_method_9_code
def yX1_ticks : MethodName := ⟨RX1, "ticks", "(I)I"⟩
abbrev cX1_of : ByteArray := prog_1_method_10_code
def yX1_of : MethodName := ⟨RX1, "of", "(II)I"⟩
abbrev cX1_isWithin : ByteArray := prog_1_method_14_code
def yX1_isWithin : MethodName := ⟨RX1, "isWithin", "(III)Z"⟩
abbrev cX1_isShape : ByteArray := prog_1_method_15_code
def yX1_isShape : MethodName := ⟨RX1, "isShape", "(II)Z"⟩
abbrev cX1_isMover : ByteArray := prog_1_method_16_code
def yX1_isMover : MethodName := ⟨RX1, "isMover", "(I)Z"⟩
abbrev cX1_isSector : ByteArray := prog_1_method_17_code
def yX1_isSector : MethodName := ⟨RX1, "isSector", "(I)Z"⟩
abbrev cX1_lowFloor : ByteArray := prog_1_method_18_code
def yX1_lowFloor : MethodName := ⟨RX1, "lowFloor", "(LMoverHall$Sector;)I"⟩
abbrev cX1_highFloor : ByteArray := prog_1_method_19_code
def yX1_highFloor : MethodName := ⟨RX1, "highFloor", "(LMoverHall$Sector;)I"⟩
abbrev cX1_lowCeiling : ByteArray := prog_1_method_20_code
def yX1_lowCeiling : MethodName := ⟨RX1, "lowCeiling", "(LMoverHall$Sector;)I"⟩
abbrev cX1_lightNow : ByteArray := prog_1_method_21_code
def yX1_lightNow : MethodName := ⟨RX1, "lightNow", "(LMoverHall$Sector;)I"⟩
abbrev cX1_start : ByteArray := prog_1_method_22_code
def yX1_start : MethodName := ⟨RX1, "start", "(LMoverHall$Sector;I)V"⟩
abbrev cX1_endOfWay : ByteArray := prog_1_method_23_code
def yX1_endOfWay : MethodName := ⟨RX1, "endOfWay", "(LMoverHall$Sector;I)I"⟩
abbrev cX1_finish : ByteArray := prog_1_method_24_code
def yX1_finish : MethodName := ⟨RX1, "finish", "(LMoverHall$Sector;)V"⟩
abbrev cX1_passOneTick : ByteArray := prog_1_method_25_code
def yX1_passOneTick : MethodName := ⟨RX1, "passOneTick", "()V"⟩
abbrev cX1_move : ByteArray := prog_1_method_26_code
def yX1_move : MethodName := ⟨RX1, "move", "(LMoverHall$Sector;Z)V"⟩
abbrev cX1_moveDoor : ByteArray := prog_1_method_27_code
def yX1_moveDoor : MethodName := ⟨RX1, "moveDoor", "(LMoverHall$Sector;Z)V"⟩
abbrev cX1_closeDoor : ByteArray := prog_1_method_28_code
def yX1_closeDoor : MethodName := ⟨RX1, "closeDoor", "(LMoverHall$Sector;Z)V"⟩
abbrev cX1_moveLift : ByteArray := prog_1_method_29_code
def yX1_moveLift : MethodName := ⟨RX1, "moveLift", "(LMoverHall$Sector;Z)V"⟩
abbrev cX1_raiseFloor : ByteArray := prog_1_method_30_code
def yX1_raiseFloor : MethodName := ⟨RX1, "raiseFloor", "(LMoverHall$Sector;IIZ)V"⟩
def RX2 : String := "MoverHallModel"
def TX2 : u_T := fun k => match k with
  | _ => ("", "", "", false)
def tyX2 : Nat → FieldType := fun k => match k with
  | _ => .int
abbrev wsX20 : List Cond := u_ws RX2 TX2 0
theorem nmX2 : ∀ a, a < 0 → ∀ b, b < 0 → a ≠ b → (TX2 a).2.1 ≠ (TX2 b).2.1 := by decide +kernel
theorem tyX2_ok : ∀ k, k < 0 → parseFieldDescriptor (TX2 k).2.2.1 = some (tyX2 k) := by decide +kernel
def RJ9 : String := "java/lang/Math"
def TJ9 : u_T := fun k => match k with
  | _ => ("", "", "", false)
def tyJ9 : Nat → FieldType := fun k => match k with
  | _ => .int
abbrev wsJ90 : List Cond := u_ws RJ9 TJ9 0
theorem nmJ9 : ∀ a, a < 0 → ∀ b, b < 0 → a ≠ b → (TJ9 a).2.1 ≠ (TJ9 b).2.1 := by decide +kernel
theorem tyJ9_ok : ∀ k, k < 0 → parseFieldDescriptor (TJ9 k).2.2.1 = some (tyJ9 k) := by decide +kernel
abbrev cJ9_max_7cf53 : ByteArray := prog_5_method_65_code
def yJ9_max_7cf53 : MethodName := ⟨RJ9, "max", "(II)I"⟩
abbrev cJ9_min_7cf53 : ByteArray := prog_5_method_69_code
def yJ9_min_7cf53 : MethodName := ⟨RJ9, "min", "(II)I"⟩
def RL : String := "MoverHallLaw"
abbrev cL_law : ByteArray := code
def yL_law : MethodName := ⟨RL, "law", "([I)Z"⟩
def wsX0_init : List Cond := .code yX0_init cX0_init 1 none :: ([.methodLink RX0 3 objectInit, .instanceMethod objectInit, .code objectInit ⟨#[0xb1]⟩ 1 none])
def wsX0_plan : List Cond := .code yX0_plan cX0_plan 6 none :: ([.fieldLink RX0 9 "MoverHall$Sector" "plannedFloor" "I", .fieldLink RX0 15 "MoverHall$Sector" "plannedCeiling" "I", .fieldLink RX0 18 "MoverHall$Sector" "light" "I", .fieldLink RX0 21 "MoverHall$Sector" "kind" "I", .fieldLink RX0 24 "MoverHall$Sector" "tag" "I", .fieldLink RX0 27 "MoverHall$Sector" "neighbours" "I"] ++ wsX00)
def wsX0_go : List Cond := .code yX0_go cX0_go 2 none :: ([.fieldLink RX0 49 "MoverHall$Sector" "way" "I", .fieldLink RX0 52 "MoverHall$Sector" "waitLeft" "I"] ++ wsX00)
def wsX0_dropMover : List Cond := .code yX0_dropMover cX0_dropMover 1 none :: ([.fieldLink RX0 39 "MoverHall$Sector" "mover" "I", .fieldLink RX0 42 "MoverHall$Sector" "wayEnd" "I", .methodLink RX0 45 yX0_go, .instanceMethod yX0_go, .selects RX0 yX0_go yX0_go, .initialized RX0, .code yX0_go cX0_go 2 none, .fieldLink RX0 49 "MoverHall$Sector" "way" "I", .fieldLink RX0 52 "MoverHall$Sector" "waitLeft" "I"] ++ wsX00)
def wsX0_goBackToPlan : List Cond := .code yX0_goBackToPlan cX0_goBackToPlan 1 none :: ([.fieldLink RX0 9 "MoverHall$Sector" "plannedFloor" "I", .fieldLink RX0 30 "MoverHall$Sector" "floor" "I", .fieldLink RX0 15 "MoverHall$Sector" "plannedCeiling" "I", .fieldLink RX0 33 "MoverHall$Sector" "ceiling" "I", .methodLink RX0 36 yX0_dropMover, .instanceMethod yX0_dropMover, .selects RX0 yX0_dropMover yX0_dropMover, .initialized RX0, .code yX0_dropMover cX0_dropMover 1 none, .fieldLink RX0 39 "MoverHall$Sector" "mover" "I", .fieldLink RX0 42 "MoverHall$Sector" "wayEnd" "I", .methodLink RX0 45 yX0_go, .instanceMethod yX0_go, .selects RX0 yX0_go yX0_go, .code yX0_go cX0_go 2 none, .fieldLink RX0 49 "MoverHall$Sector" "way" "I", .fieldLink RX0 52 "MoverHall$Sector" "waitLeft" "I"] ++ wsX00)
def wsX0_hasNeighbour : List Cond := .code yX0_hasNeighbour cX0_hasNeighbour 2 (some .boolean) :: ([.fieldLink RX0 27 "MoverHall$Sector" "neighbours" "I"] ++ wsX00)
def wsX0_hasNeighbours : List Cond := .code yX0_hasNeighbours cX0_hasNeighbours 1 (some .boolean) :: ([.fieldLink RX0 27 "MoverHall$Sector" "neighbours" "I"] ++ wsX00)
def wsX0_addNeighbour : List Cond := .code yX0_addNeighbour cX0_addNeighbour 2 none :: ([.fieldLink RX0 27 "MoverHall$Sector" "neighbours" "I"] ++ wsX00)
def wsX0_waitFor : List Cond := .code yX0_waitFor cX0_waitFor 2 none :: ([.fieldLink RX0 49 "MoverHall$Sector" "way" "I", .fieldLink RX0 52 "MoverHall$Sector" "waitLeft" "I"] ++ wsX00)
def wsX0_waitOneTick : List Cond := .code yX0_waitOneTick cX0_waitOneTick 1 none :: ([.fieldLink RX0 52 "MoverHall$Sector" "waitLeft" "I", .fieldLink RX0 39 "MoverHall$Sector" "mover" "I", .fieldLink RX0 49 "MoverHall$Sector" "way" "I"] ++ wsX00)
def wsX1_init : List Cond := .code yX1_init cX1_init 2 none :: ([.methodLink RX1 1 objectInit, .instanceMethod objectInit, .code objectInit ⟨#[0xb1]⟩ 1 none, .classLink RX1 9 RX0, .fieldLink RX1 11 "MoverHall" "sectors" "[LMoverHall$Sector;", .instantiable RX0 13, .initialized RX0, .fieldLink RX1 16 "MoverHall" "guestSector" "I", .instanceMethod yX0_init, .code yX0_init cX0_init 1 none, .methodLink RX0 3 objectInit] ++ wsX10 ++ wsX00)
def wsX1_isShape : List Cond := .code yX1_isShape cX1_isShape 2 (some .boolean) :: ([])
def wsX1_isWithin : List Cond := .code yX1_isWithin cX1_isWithin 3 (some .boolean) :: ([])
def wsX1_reset_r1 : List Cond := [Cond.fieldLink RX1 20 "MoverHall" "sectorCount" "I", Cond.fieldLink RX1 11 "MoverHall" "sectors" "[LMoverHall$Sector;", Cond.fieldLink RX1 55 "MoverHall" "tickCount" "I", Cond.fieldLink RX1 58 "MoverHall" "moverCount" "I", Cond.fieldLink RX1 61 "MoverHall" "blockedCount" "I", Cond.fieldLink RX1 16 "MoverHall" "guestSector" "I", Cond.instanceMethod yX0_goBackToPlan, Cond.initialized RX0, Cond.selects RX0 yX0_goBackToPlan yX0_goBackToPlan, Cond.code yX0_goBackToPlan cX0_goBackToPlan 1 none, Cond.fieldLink RX0 9 "MoverHall$Sector" "plannedFloor" "I", Cond.fieldLink RX0 30 "MoverHall$Sector" "floor" "I", Cond.fieldLink RX0 15 "MoverHall$Sector" "plannedCeiling" "I", Cond.fieldLink RX0 33 "MoverHall$Sector" "ceiling" "I", Cond.methodLink RX0 36 yX0_dropMover, Cond.instanceMethod yX0_dropMover, Cond.selects RX0 yX0_dropMover yX0_dropMover, Cond.code yX0_dropMover cX0_dropMover 1 none, Cond.fieldLink RX0 39 "MoverHall$Sector" "mover" "I", Cond.fieldLink RX0 42 "MoverHall$Sector" "wayEnd" "I", Cond.methodLink RX0 45 yX0_go, Cond.instanceMethod yX0_go, Cond.selects RX0 yX0_go yX0_go, Cond.code yX0_go cX0_go 2 none]
def wsX1_reset_r2 : List Cond := [Cond.fieldLink RX0 49 "MoverHall$Sector" "way" "I", Cond.fieldLink RX0 52 "MoverHall$Sector" "waitLeft" "I"]
def wsX1_reset : List Cond := .code yX1_reset cX1_reset 2 none :: ((wsX1_reset_r1 ++ wsX1_reset_r2) ++ wsX10 ++ wsX00)
def wsX1_sector_r1 : List Cond := [Cond.fieldLink RX1 20 "MoverHall" "sectorCount" "I", Cond.fieldLink RX1 11 "MoverHall" "sectors" "[LMoverHall$Sector;", Cond.methodLink RX1 23 yX1_isShape, Cond.static yX1_isShape, Cond.initialized RX1, Cond.code yX1_isShape cX1_isShape 2 (some .boolean), Cond.methodLink RX1 27 yX1_isWithin, Cond.static yX1_isWithin, Cond.code yX1_isWithin cX1_isWithin 3 (some .boolean), Cond.instanceMethod yX0_plan, Cond.initialized RX0, Cond.selects RX0 yX0_plan yX0_plan, Cond.code yX0_plan cX0_plan 6 none, Cond.fieldLink RX0 9 "MoverHall$Sector" "plannedFloor" "I", Cond.fieldLink RX0 15 "MoverHall$Sector" "plannedCeiling" "I", Cond.fieldLink RX0 18 "MoverHall$Sector" "light" "I", Cond.fieldLink RX0 21 "MoverHall$Sector" "kind" "I", Cond.fieldLink RX0 24 "MoverHall$Sector" "tag" "I", Cond.fieldLink RX0 27 "MoverHall$Sector" "neighbours" "I", Cond.methodLink RX1 35 yX1_reset, Cond.instanceMethod yX1_reset, Cond.selects RX1 yX1_reset yX1_reset, Cond.code yX1_reset cX1_reset 2 none, Cond.fieldLink RX1 55 "MoverHall" "tickCount" "I"]
def wsX1_sector_r2 : List Cond := [Cond.fieldLink RX1 58 "MoverHall" "moverCount" "I", Cond.fieldLink RX1 61 "MoverHall" "blockedCount" "I", Cond.fieldLink RX1 16 "MoverHall" "guestSector" "I", Cond.instanceMethod yX0_goBackToPlan, Cond.selects RX0 yX0_goBackToPlan yX0_goBackToPlan, Cond.code yX0_goBackToPlan cX0_goBackToPlan 1 none, Cond.fieldLink RX0 30 "MoverHall$Sector" "floor" "I", Cond.fieldLink RX0 33 "MoverHall$Sector" "ceiling" "I", Cond.methodLink RX0 36 yX0_dropMover, Cond.instanceMethod yX0_dropMover, Cond.selects RX0 yX0_dropMover yX0_dropMover, Cond.code yX0_dropMover cX0_dropMover 1 none, Cond.fieldLink RX0 39 "MoverHall$Sector" "mover" "I", Cond.fieldLink RX0 42 "MoverHall$Sector" "wayEnd" "I", Cond.methodLink RX0 45 yX0_go, Cond.instanceMethod yX0_go, Cond.selects RX0 yX0_go yX0_go, Cond.code yX0_go cX0_go 2 none, Cond.fieldLink RX0 49 "MoverHall$Sector" "way" "I", Cond.fieldLink RX0 52 "MoverHall$Sector" "waitLeft" "I"]
def wsX1_sector : List Cond := .code yX1_sector cX1_sector 7 (some .int) :: ((wsX1_sector_r1 ++ wsX1_sector_r2) ++ wsX10 ++ wsX00)
def wsX1_isSector : List Cond := .code yX1_isSector cX1_isSector 2 (some .boolean) :: ([.fieldLink RX1 20 "MoverHall" "sectorCount" "I"] ++ wsX10)
def wsX1_join : List Cond := .code yX1_join cX1_join 3 (some .boolean) :: ([.fieldLink RX1 11 "MoverHall" "sectors" "[LMoverHall$Sector;", .fieldLink RX1 49 "MoverHall" "pairCount" "I", .methodLink RX1 38 yX1_isSector, .instanceMethod yX1_isSector, .selects RX1 yX1_isSector yX1_isSector, .initialized RX1, .code yX1_isSector cX1_isSector 2 (some .boolean), .fieldLink RX1 20 "MoverHall" "sectorCount" "I", .instanceMethod yX0_hasNeighbour, .initialized RX0, .selects RX0 yX0_hasNeighbour yX0_hasNeighbour, .code yX0_hasNeighbour cX0_hasNeighbour 2 (some .boolean), .fieldLink RX0 27 "MoverHall$Sector" "neighbours" "I", .instanceMethod yX0_addNeighbour, .selects RX0 yX0_addNeighbour yX0_addNeighbour, .code yX0_addNeighbour cX0_addNeighbour 2 none] ++ wsX10 ++ wsX00)
def wsX1_clear_r1 : List Cond := [Cond.fieldLink RX1 20 "MoverHall" "sectorCount" "I", Cond.fieldLink RX1 49 "MoverHall" "pairCount" "I", Cond.methodLink RX1 35 yX1_reset, Cond.instanceMethod yX1_reset, Cond.selects RX1 yX1_reset yX1_reset, Cond.initialized RX1, Cond.code yX1_reset cX1_reset 2 none, Cond.fieldLink RX1 11 "MoverHall" "sectors" "[LMoverHall$Sector;", Cond.fieldLink RX1 55 "MoverHall" "tickCount" "I", Cond.fieldLink RX1 58 "MoverHall" "moverCount" "I", Cond.fieldLink RX1 61 "MoverHall" "blockedCount" "I", Cond.fieldLink RX1 16 "MoverHall" "guestSector" "I", Cond.instanceMethod yX0_goBackToPlan, Cond.initialized RX0, Cond.selects RX0 yX0_goBackToPlan yX0_goBackToPlan, Cond.code yX0_goBackToPlan cX0_goBackToPlan 1 none, Cond.fieldLink RX0 9 "MoverHall$Sector" "plannedFloor" "I", Cond.fieldLink RX0 30 "MoverHall$Sector" "floor" "I", Cond.fieldLink RX0 15 "MoverHall$Sector" "plannedCeiling" "I", Cond.fieldLink RX0 33 "MoverHall$Sector" "ceiling" "I", Cond.methodLink RX0 36 yX0_dropMover, Cond.instanceMethod yX0_dropMover, Cond.selects RX0 yX0_dropMover yX0_dropMover, Cond.code yX0_dropMover cX0_dropMover 1 none]
def wsX1_clear_r2 : List Cond := [Cond.fieldLink RX0 39 "MoverHall$Sector" "mover" "I", Cond.fieldLink RX0 42 "MoverHall$Sector" "wayEnd" "I", Cond.methodLink RX0 45 yX0_go, Cond.instanceMethod yX0_go, Cond.selects RX0 yX0_go yX0_go, Cond.code yX0_go cX0_go 2 none, Cond.fieldLink RX0 49 "MoverHall$Sector" "way" "I", Cond.fieldLink RX0 52 "MoverHall$Sector" "waitLeft" "I"]
def wsX1_clear : List Cond := .code yX1_clear cX1_clear 1 none :: ((wsX1_clear_r1 ++ wsX1_clear_r2) ++ wsX10 ++ wsX00)
def wsX1_isMover : List Cond := .code yX1_isMover cX1_isMover 1 (some .boolean) :: ([.methodLink RX1 27 yX1_isWithin, .static yX1_isWithin, .initialized RX1, .code yX1_isWithin cX1_isWithin 3 (some .boolean)])
def wsX1_lowCeiling : List Cond := .code yX1_lowCeiling cX1_lowCeiling 4 (some .int) :: ([.fieldLink RX1 20 "MoverHall" "sectorCount" "I", .fieldLink RX1 11 "MoverHall" "sectors" "[LMoverHall$Sector;", .methodLink RX1 118 Lib.Math.min.name, .static Lib.Math.min.name, .initialized "java/lang/Math", .code Lib.Math.min.name Lib.Math.min.code 2 (some .int), .instanceMethod yX0_hasNeighbours, .initialized RX0, .selects RX0 yX0_hasNeighbours yX0_hasNeighbours, .code yX0_hasNeighbours cX0_hasNeighbours 1 (some .boolean), .fieldLink RX0 27 "MoverHall$Sector" "neighbours" "I", .instanceMethod yX0_hasNeighbour, .selects RX0 yX0_hasNeighbour yX0_hasNeighbour, .code yX0_hasNeighbour cX0_hasNeighbour 2 (some .boolean)] ++ wsX00 ++ wsX10)
def wsX1_lowFloor : List Cond := .code yX1_lowFloor cX1_lowFloor 4 (some .int) :: ([.fieldLink RX1 20 "MoverHall" "sectorCount" "I", .fieldLink RX1 11 "MoverHall" "sectors" "[LMoverHall$Sector;", .methodLink RX1 118 Lib.Math.min.name, .static Lib.Math.min.name, .initialized "java/lang/Math", .code Lib.Math.min.name Lib.Math.min.code 2 (some .int), .instanceMethod yX0_hasNeighbour, .initialized RX0, .selects RX0 yX0_hasNeighbour yX0_hasNeighbour, .code yX0_hasNeighbour cX0_hasNeighbour 2 (some .boolean), .fieldLink RX0 27 "MoverHall$Sector" "neighbours" "I"] ++ wsX00 ++ wsX10)
def wsX1_highFloor : List Cond := .code yX1_highFloor cX1_highFloor 4 (some .int) :: ([.fieldLink RX1 20 "MoverHall" "sectorCount" "I", .fieldLink RX1 11 "MoverHall" "sectors" "[LMoverHall$Sector;", .methodLink RX1 124 Lib.Math.max.name, .static Lib.Math.max.name, .initialized "java/lang/Math", .code Lib.Math.max.name Lib.Math.max.code 2 (some .int), .instanceMethod yX0_hasNeighbour, .initialized RX0, .selects RX0 yX0_hasNeighbour yX0_hasNeighbour, .code yX0_hasNeighbour cX0_hasNeighbour 2 (some .boolean), .fieldLink RX0 27 "MoverHall$Sector" "neighbours" "I"] ++ wsX00 ++ wsX10)
def wsX1_endOfWay_r1 : List Cond := [Cond.methodLink RX1 124 Lib.Math.max.name, Cond.static Lib.Math.max.name, Cond.initialized "java/lang/Math", Cond.code Lib.Math.max.name Lib.Math.max.code 2 (some .int), Cond.methodLink RX1 118 Lib.Math.min.name, Cond.static Lib.Math.min.name, Cond.code Lib.Math.min.name Lib.Math.min.code 2 (some .int), Cond.methodLink RX1 109 yX1_lowCeiling, Cond.instanceMethod yX1_lowCeiling, Cond.selects RX1 yX1_lowCeiling yX1_lowCeiling, Cond.initialized RX1, Cond.code yX1_lowCeiling cX1_lowCeiling 4 (some .int), Cond.fieldLink RX1 20 "MoverHall" "sectorCount" "I", Cond.fieldLink RX1 11 "MoverHall" "sectors" "[LMoverHall$Sector;", Cond.instanceMethod yX0_hasNeighbours, Cond.initialized RX0, Cond.selects RX0 yX0_hasNeighbours yX0_hasNeighbours, Cond.code yX0_hasNeighbours cX0_hasNeighbours 1 (some .boolean), Cond.fieldLink RX0 27 "MoverHall$Sector" "neighbours" "I", Cond.instanceMethod yX0_hasNeighbour, Cond.selects RX0 yX0_hasNeighbour yX0_hasNeighbour, Cond.code yX0_hasNeighbour cX0_hasNeighbour 2 (some .boolean), Cond.methodLink RX1 103 yX1_lowFloor, Cond.instanceMethod yX1_lowFloor]
def wsX1_endOfWay_r2 : List Cond := [Cond.selects RX1 yX1_lowFloor yX1_lowFloor, Cond.code yX1_lowFloor cX1_lowFloor 4 (some .int), Cond.methodLink RX1 106 yX1_highFloor, Cond.instanceMethod yX1_highFloor, Cond.selects RX1 yX1_highFloor yX1_highFloor, Cond.code yX1_highFloor cX1_highFloor 4 (some .int)]
def wsX1_endOfWay : List Cond := .code yX1_endOfWay cX1_endOfWay 3 (some .int) :: ((wsX1_endOfWay_r1 ++ wsX1_endOfWay_r2) ++ wsX00 ++ wsX10)
def wsX1_start_r1 : List Cond := [Cond.fieldLink RX1 58 "MoverHall" "moverCount" "I", Cond.methodLink RX1 140 yX1_endOfWay, Cond.instanceMethod yX1_endOfWay, Cond.selects RX1 yX1_endOfWay yX1_endOfWay, Cond.initialized RX1, Cond.code yX1_endOfWay cX1_endOfWay 3 (some .int), Cond.methodLink RX1 124 Lib.Math.max.name, Cond.static Lib.Math.max.name, Cond.initialized "java/lang/Math", Cond.code Lib.Math.max.name Lib.Math.max.code 2 (some .int), Cond.methodLink RX1 118 Lib.Math.min.name, Cond.static Lib.Math.min.name, Cond.code Lib.Math.min.name Lib.Math.min.code 2 (some .int), Cond.methodLink RX1 109 yX1_lowCeiling, Cond.instanceMethod yX1_lowCeiling, Cond.selects RX1 yX1_lowCeiling yX1_lowCeiling, Cond.code yX1_lowCeiling cX1_lowCeiling 4 (some .int), Cond.fieldLink RX1 20 "MoverHall" "sectorCount" "I", Cond.fieldLink RX1 11 "MoverHall" "sectors" "[LMoverHall$Sector;", Cond.instanceMethod yX0_hasNeighbours, Cond.initialized RX0, Cond.selects RX0 yX0_hasNeighbours yX0_hasNeighbours, Cond.code yX0_hasNeighbours cX0_hasNeighbours 1 (some .boolean), Cond.fieldLink RX0 27 "MoverHall$Sector" "neighbours" "I"]
def wsX1_start_r2 : List Cond := [Cond.instanceMethod yX0_hasNeighbour, Cond.selects RX0 yX0_hasNeighbour yX0_hasNeighbour, Cond.code yX0_hasNeighbour cX0_hasNeighbour 2 (some .boolean), Cond.methodLink RX1 103 yX1_lowFloor, Cond.instanceMethod yX1_lowFloor, Cond.selects RX1 yX1_lowFloor yX1_lowFloor, Cond.code yX1_lowFloor cX1_lowFloor 4 (some .int), Cond.methodLink RX1 106 yX1_highFloor, Cond.instanceMethod yX1_highFloor, Cond.selects RX1 yX1_highFloor yX1_highFloor, Cond.code yX1_highFloor cX1_highFloor 4 (some .int), Cond.instanceMethod yX0_go, Cond.selects RX0 yX0_go yX0_go, Cond.code yX0_go cX0_go 2 none, Cond.fieldLink RX0 49 "MoverHall$Sector" "way" "I", Cond.fieldLink RX0 52 "MoverHall$Sector" "waitLeft" "I"]
def wsX1_start : List Cond := .code yX1_start cX1_start 3 none :: ((wsX1_start_r1 ++ wsX1_start_r2) ++ wsX00 ++ wsX10)
def wsX1_begin_r1 : List Cond := [Cond.fieldLink RX1 11 "MoverHall" "sectors" "[LMoverHall$Sector;", Cond.methodLink RX1 38 yX1_isSector, Cond.instanceMethod yX1_isSector, Cond.selects RX1 yX1_isSector yX1_isSector, Cond.initialized RX1, Cond.code yX1_isSector cX1_isSector 2 (some .boolean), Cond.fieldLink RX1 20 "MoverHall" "sectorCount" "I", Cond.methodLink RX1 64 yX1_isMover, Cond.static yX1_isMover, Cond.code yX1_isMover cX1_isMover 1 (some .boolean), Cond.methodLink RX1 27 yX1_isWithin, Cond.static yX1_isWithin, Cond.code yX1_isWithin cX1_isWithin 3 (some .boolean), Cond.methodLink RX1 70 yX1_start, Cond.instanceMethod yX1_start, Cond.selects RX1 yX1_start yX1_start, Cond.code yX1_start cX1_start 3 none, Cond.fieldLink RX1 58 "MoverHall" "moverCount" "I", Cond.methodLink RX1 140 yX1_endOfWay, Cond.instanceMethod yX1_endOfWay, Cond.selects RX1 yX1_endOfWay yX1_endOfWay, Cond.code yX1_endOfWay cX1_endOfWay 3 (some .int), Cond.methodLink RX1 124 Lib.Math.max.name, Cond.static Lib.Math.max.name]
def wsX1_begin_r2 : List Cond := [Cond.initialized "java/lang/Math", Cond.code Lib.Math.max.name Lib.Math.max.code 2 (some .int), Cond.methodLink RX1 118 Lib.Math.min.name, Cond.static Lib.Math.min.name, Cond.code Lib.Math.min.name Lib.Math.min.code 2 (some .int), Cond.methodLink RX1 109 yX1_lowCeiling, Cond.instanceMethod yX1_lowCeiling, Cond.selects RX1 yX1_lowCeiling yX1_lowCeiling, Cond.code yX1_lowCeiling cX1_lowCeiling 4 (some .int), Cond.instanceMethod yX0_hasNeighbours, Cond.initialized RX0, Cond.selects RX0 yX0_hasNeighbours yX0_hasNeighbours, Cond.code yX0_hasNeighbours cX0_hasNeighbours 1 (some .boolean), Cond.fieldLink RX0 27 "MoverHall$Sector" "neighbours" "I", Cond.instanceMethod yX0_hasNeighbour, Cond.selects RX0 yX0_hasNeighbour yX0_hasNeighbour, Cond.code yX0_hasNeighbour cX0_hasNeighbour 2 (some .boolean), Cond.methodLink RX1 103 yX1_lowFloor, Cond.instanceMethod yX1_lowFloor, Cond.selects RX1 yX1_lowFloor yX1_lowFloor, Cond.code yX1_lowFloor cX1_lowFloor 4 (some .int), Cond.methodLink RX1 106 yX1_highFloor, Cond.instanceMethod yX1_highFloor, Cond.selects RX1 yX1_highFloor yX1_highFloor]
def wsX1_begin_r3 : List Cond := [Cond.code yX1_highFloor cX1_highFloor 4 (some .int), Cond.instanceMethod yX0_go, Cond.selects RX0 yX0_go yX0_go, Cond.code yX0_go cX0_go 2 none, Cond.fieldLink RX0 49 "MoverHall$Sector" "way" "I", Cond.fieldLink RX0 52 "MoverHall$Sector" "waitLeft" "I"]
def wsX1_begin : List Cond := .code yX1_begin cX1_begin 4 (some .boolean) :: ((wsX1_begin_r1 ++ (wsX1_begin_r2 ++ wsX1_begin_r3)) ++ wsX10 ++ wsX00)
def wsX1_tag_r1 : List Cond := [Cond.fieldLink RX1 20 "MoverHall" "sectorCount" "I", Cond.fieldLink RX1 11 "MoverHall" "sectors" "[LMoverHall$Sector;", Cond.methodLink RX1 27 yX1_isWithin, Cond.static yX1_isWithin, Cond.initialized RX1, Cond.code yX1_isWithin cX1_isWithin 3 (some .boolean), Cond.methodLink RX1 64 yX1_isMover, Cond.static yX1_isMover, Cond.code yX1_isMover cX1_isMover 1 (some .boolean), Cond.methodLink RX1 83 yX1_begin, Cond.instanceMethod yX1_begin, Cond.selects RX1 yX1_begin yX1_begin, Cond.code yX1_begin cX1_begin 4 (some .boolean), Cond.methodLink RX1 38 yX1_isSector, Cond.instanceMethod yX1_isSector, Cond.selects RX1 yX1_isSector yX1_isSector, Cond.code yX1_isSector cX1_isSector 2 (some .boolean), Cond.methodLink RX1 70 yX1_start, Cond.instanceMethod yX1_start, Cond.selects RX1 yX1_start yX1_start, Cond.code yX1_start cX1_start 3 none, Cond.fieldLink RX1 58 "MoverHall" "moverCount" "I", Cond.methodLink RX1 140 yX1_endOfWay, Cond.instanceMethod yX1_endOfWay]
def wsX1_tag_r2 : List Cond := [Cond.selects RX1 yX1_endOfWay yX1_endOfWay, Cond.code yX1_endOfWay cX1_endOfWay 3 (some .int), Cond.methodLink RX1 124 Lib.Math.max.name, Cond.static Lib.Math.max.name, Cond.initialized "java/lang/Math", Cond.code Lib.Math.max.name Lib.Math.max.code 2 (some .int), Cond.methodLink RX1 118 Lib.Math.min.name, Cond.static Lib.Math.min.name, Cond.code Lib.Math.min.name Lib.Math.min.code 2 (some .int), Cond.methodLink RX1 109 yX1_lowCeiling, Cond.instanceMethod yX1_lowCeiling, Cond.selects RX1 yX1_lowCeiling yX1_lowCeiling, Cond.code yX1_lowCeiling cX1_lowCeiling 4 (some .int), Cond.instanceMethod yX0_hasNeighbours, Cond.initialized RX0, Cond.selects RX0 yX0_hasNeighbours yX0_hasNeighbours, Cond.code yX0_hasNeighbours cX0_hasNeighbours 1 (some .boolean), Cond.fieldLink RX0 27 "MoverHall$Sector" "neighbours" "I", Cond.instanceMethod yX0_hasNeighbour, Cond.selects RX0 yX0_hasNeighbour yX0_hasNeighbour, Cond.code yX0_hasNeighbour cX0_hasNeighbour 2 (some .boolean), Cond.methodLink RX1 103 yX1_lowFloor, Cond.instanceMethod yX1_lowFloor, Cond.selects RX1 yX1_lowFloor yX1_lowFloor]
def wsX1_tag_r3 : List Cond := [Cond.code yX1_lowFloor cX1_lowFloor 4 (some .int), Cond.methodLink RX1 106 yX1_highFloor, Cond.instanceMethod yX1_highFloor, Cond.selects RX1 yX1_highFloor yX1_highFloor, Cond.code yX1_highFloor cX1_highFloor 4 (some .int), Cond.instanceMethod yX0_go, Cond.selects RX0 yX0_go yX0_go, Cond.code yX0_go cX0_go 2 none, Cond.fieldLink RX0 49 "MoverHall$Sector" "way" "I", Cond.fieldLink RX0 52 "MoverHall$Sector" "waitLeft" "I"]
def wsX1_tag : List Cond := .code yX1_tag cX1_tag 5 (some .int) :: ((wsX1_tag_r1 ++ (wsX1_tag_r2 ++ wsX1_tag_r3)) ++ wsX10 ++ wsX00)
def wsX1_enter : List Cond := .code yX1_enter cX1_enter 2 (some .boolean) :: ([.fieldLink RX1 16 "MoverHall" "guestSector" "I", .methodLink RX1 38 yX1_isSector, .instanceMethod yX1_isSector, .selects RX1 yX1_isSector yX1_isSector, .initialized RX1, .code yX1_isSector cX1_isSector 2 (some .boolean), .fieldLink RX1 20 "MoverHall" "sectorCount" "I"] ++ wsX10)
def wsX1_finish : List Cond := .code yX1_finish cX1_finish 2 none :: ([.fieldLink RX1 58 "MoverHall" "moverCount" "I", .instanceMethod yX0_dropMover, .initialized RX0, .selects RX0 yX0_dropMover yX0_dropMover, .code yX0_dropMover cX0_dropMover 1 none, .fieldLink RX0 39 "MoverHall$Sector" "mover" "I", .fieldLink RX0 42 "MoverHall$Sector" "wayEnd" "I", .methodLink RX0 45 yX0_go, .instanceMethod yX0_go, .selects RX0 yX0_go yX0_go, .code yX0_go cX0_go 2 none, .fieldLink RX0 49 "MoverHall$Sector" "way" "I", .fieldLink RX0 52 "MoverHall$Sector" "waitLeft" "I"] ++ wsX10 ++ wsX00)
def wsX1_closeDoor : List Cond := .code yX1_closeDoor cX1_closeDoor 4 none :: ([.methodLink RX1 124 Lib.Math.max.name, .static Lib.Math.max.name, .initialized "java/lang/Math", .code Lib.Math.max.name Lib.Math.max.code 2 (some .int), .fieldLink RX1 61 "MoverHall" "blockedCount" "I", .instanceMethod yX0_go, .initialized RX0, .selects RX0 yX0_go yX0_go, .code yX0_go cX0_go 2 none, .fieldLink RX0 49 "MoverHall$Sector" "way" "I", .fieldLink RX0 52 "MoverHall$Sector" "waitLeft" "I", .methodLink RX1 170 yX1_finish, .instanceMethod yX1_finish, .selects RX1 yX1_finish yX1_finish, .initialized RX1, .code yX1_finish cX1_finish 2 none, .fieldLink RX1 58 "MoverHall" "moverCount" "I", .instanceMethod yX0_dropMover, .selects RX0 yX0_dropMover yX0_dropMover, .code yX0_dropMover cX0_dropMover 1 none, .fieldLink RX0 39 "MoverHall$Sector" "mover" "I", .fieldLink RX0 42 "MoverHall$Sector" "wayEnd" "I", .methodLink RX0 45 yX0_go] ++ wsX00 ++ wsX10)
def wsX1_moveDoor_r1 : List Cond := [Cond.methodLink RX1 118 Lib.Math.min.name, Cond.static Lib.Math.min.name, Cond.initialized "java/lang/Math", Cond.code Lib.Math.min.name Lib.Math.min.code 2 (some .int), Cond.methodLink RX1 164 yX1_closeDoor, Cond.instanceMethod yX1_closeDoor, Cond.selects RX1 yX1_closeDoor yX1_closeDoor, Cond.initialized RX1, Cond.code yX1_closeDoor cX1_closeDoor 4 none, Cond.methodLink RX1 124 Lib.Math.max.name, Cond.static Lib.Math.max.name, Cond.code Lib.Math.max.name Lib.Math.max.code 2 (some .int), Cond.fieldLink RX1 61 "MoverHall" "blockedCount" "I", Cond.instanceMethod yX0_go, Cond.initialized RX0, Cond.selects RX0 yX0_go yX0_go, Cond.code yX0_go cX0_go 2 none, Cond.fieldLink RX0 49 "MoverHall$Sector" "way" "I", Cond.fieldLink RX0 52 "MoverHall$Sector" "waitLeft" "I", Cond.methodLink RX1 170 yX1_finish, Cond.instanceMethod yX1_finish, Cond.selects RX1 yX1_finish yX1_finish, Cond.code yX1_finish cX1_finish 2 none, Cond.fieldLink RX1 58 "MoverHall" "moverCount" "I"]
def wsX1_moveDoor_r2 : List Cond := [Cond.instanceMethod yX0_dropMover, Cond.selects RX0 yX0_dropMover yX0_dropMover, Cond.code yX0_dropMover cX0_dropMover 1 none, Cond.fieldLink RX0 39 "MoverHall$Sector" "mover" "I", Cond.fieldLink RX0 42 "MoverHall$Sector" "wayEnd" "I", Cond.methodLink RX0 45 yX0_go, Cond.instanceMethod yX0_waitFor, Cond.selects RX0 yX0_waitFor yX0_waitFor, Cond.code yX0_waitFor cX0_waitFor 2 none]
def wsX1_moveDoor : List Cond := .code yX1_moveDoor cX1_moveDoor 3 none :: ((wsX1_moveDoor_r1 ++ wsX1_moveDoor_r2) ++ wsX00 ++ wsX10)
def wsX1_raiseFloor : List Cond := .code yX1_raiseFloor cX1_raiseFloor 6 none :: ([.methodLink RX1 118 Lib.Math.min.name, .static Lib.Math.min.name, .initialized "java/lang/Math", .code Lib.Math.min.name Lib.Math.min.code 2 (some .int), .fieldLink RX1 61 "MoverHall" "blockedCount" "I", .methodLink RX1 170 yX1_finish, .instanceMethod yX1_finish, .selects RX1 yX1_finish yX1_finish, .initialized RX1, .code yX1_finish cX1_finish 2 none, .fieldLink RX1 58 "MoverHall" "moverCount" "I", .instanceMethod yX0_dropMover, .initialized RX0, .selects RX0 yX0_dropMover yX0_dropMover, .code yX0_dropMover cX0_dropMover 1 none, .fieldLink RX0 39 "MoverHall$Sector" "mover" "I", .fieldLink RX0 42 "MoverHall$Sector" "wayEnd" "I", .methodLink RX0 45 yX0_go, .instanceMethod yX0_go, .selects RX0 yX0_go yX0_go, .code yX0_go cX0_go 2 none, .fieldLink RX0 49 "MoverHall$Sector" "way" "I", .fieldLink RX0 52 "MoverHall$Sector" "waitLeft" "I"] ++ wsX00 ++ wsX10)
def wsX1_moveLift_r1 : List Cond := [Cond.methodLink RX1 124 Lib.Math.max.name, Cond.static Lib.Math.max.name, Cond.initialized "java/lang/Math", Cond.code Lib.Math.max.name Lib.Math.max.code 2 (some .int), Cond.methodLink RX1 160 yX1_raiseFloor, Cond.instanceMethod yX1_raiseFloor, Cond.selects RX1 yX1_raiseFloor yX1_raiseFloor, Cond.initialized RX1, Cond.code yX1_raiseFloor cX1_raiseFloor 6 none, Cond.methodLink RX1 118 Lib.Math.min.name, Cond.static Lib.Math.min.name, Cond.code Lib.Math.min.name Lib.Math.min.code 2 (some .int), Cond.fieldLink RX1 61 "MoverHall" "blockedCount" "I", Cond.methodLink RX1 170 yX1_finish, Cond.instanceMethod yX1_finish, Cond.selects RX1 yX1_finish yX1_finish, Cond.code yX1_finish cX1_finish 2 none, Cond.fieldLink RX1 58 "MoverHall" "moverCount" "I", Cond.instanceMethod yX0_dropMover, Cond.initialized RX0, Cond.selects RX0 yX0_dropMover yX0_dropMover, Cond.code yX0_dropMover cX0_dropMover 1 none, Cond.fieldLink RX0 39 "MoverHall$Sector" "mover" "I", Cond.fieldLink RX0 42 "MoverHall$Sector" "wayEnd" "I"]
def wsX1_moveLift_r2 : List Cond := [Cond.methodLink RX0 45 yX0_go, Cond.instanceMethod yX0_go, Cond.selects RX0 yX0_go yX0_go, Cond.code yX0_go cX0_go 2 none, Cond.fieldLink RX0 49 "MoverHall$Sector" "way" "I", Cond.fieldLink RX0 52 "MoverHall$Sector" "waitLeft" "I", Cond.instanceMethod yX0_waitFor, Cond.selects RX0 yX0_waitFor yX0_waitFor, Cond.code yX0_waitFor cX0_waitFor 2 none]
def wsX1_moveLift : List Cond := .code yX1_moveLift cX1_moveLift 3 none :: ((wsX1_moveLift_r1 ++ wsX1_moveLift_r2) ++ wsX00 ++ wsX10)
def wsX1_move_r1 : List Cond := [Cond.instanceMethod yX0_waitOneTick, Cond.initialized RX0, Cond.selects RX0 yX0_waitOneTick yX0_waitOneTick, Cond.code yX0_waitOneTick cX0_waitOneTick 1 none, Cond.fieldLink RX0 52 "MoverHall$Sector" "waitLeft" "I", Cond.fieldLink RX0 39 "MoverHall$Sector" "mover" "I", Cond.fieldLink RX0 49 "MoverHall$Sector" "way" "I", Cond.methodLink RX1 154 yX1_moveDoor, Cond.instanceMethod yX1_moveDoor, Cond.selects RX1 yX1_moveDoor yX1_moveDoor, Cond.initialized RX1, Cond.code yX1_moveDoor cX1_moveDoor 3 none, Cond.methodLink RX1 118 Lib.Math.min.name, Cond.static Lib.Math.min.name, Cond.initialized "java/lang/Math", Cond.code Lib.Math.min.name Lib.Math.min.code 2 (some .int), Cond.methodLink RX1 164 yX1_closeDoor, Cond.instanceMethod yX1_closeDoor, Cond.selects RX1 yX1_closeDoor yX1_closeDoor, Cond.code yX1_closeDoor cX1_closeDoor 4 none, Cond.methodLink RX1 124 Lib.Math.max.name, Cond.static Lib.Math.max.name, Cond.code Lib.Math.max.name Lib.Math.max.code 2 (some .int), Cond.fieldLink RX1 61 "MoverHall" "blockedCount" "I"]
def wsX1_move_r2 : List Cond := [Cond.instanceMethod yX0_go, Cond.selects RX0 yX0_go yX0_go, Cond.code yX0_go cX0_go 2 none, Cond.methodLink RX1 170 yX1_finish, Cond.instanceMethod yX1_finish, Cond.selects RX1 yX1_finish yX1_finish, Cond.code yX1_finish cX1_finish 2 none, Cond.fieldLink RX1 58 "MoverHall" "moverCount" "I", Cond.instanceMethod yX0_dropMover, Cond.selects RX0 yX0_dropMover yX0_dropMover, Cond.code yX0_dropMover cX0_dropMover 1 none, Cond.fieldLink RX0 42 "MoverHall$Sector" "wayEnd" "I", Cond.methodLink RX0 45 yX0_go, Cond.instanceMethod yX0_waitFor, Cond.selects RX0 yX0_waitFor yX0_waitFor, Cond.code yX0_waitFor cX0_waitFor 2 none, Cond.methodLink RX1 157 yX1_moveLift, Cond.instanceMethod yX1_moveLift, Cond.selects RX1 yX1_moveLift yX1_moveLift, Cond.code yX1_moveLift cX1_moveLift 3 none, Cond.methodLink RX1 160 yX1_raiseFloor, Cond.instanceMethod yX1_raiseFloor, Cond.selects RX1 yX1_raiseFloor yX1_raiseFloor, Cond.code yX1_raiseFloor cX1_raiseFloor 6 none]
def wsX1_move : List Cond := .code yX1_move cX1_move 3 none :: ((wsX1_move_r1 ++ wsX1_move_r2) ++ wsX00 ++ wsX10)
def wsX1_passOneTick_r1 : List Cond := [Cond.fieldLink RX1 55 "MoverHall" "tickCount" "I", Cond.fieldLink RX1 58 "MoverHall" "moverCount" "I", Cond.fieldLink RX1 20 "MoverHall" "sectorCount" "I", Cond.fieldLink RX1 11 "MoverHall" "sectors" "[LMoverHall$Sector;", Cond.fieldLink RX1 16 "MoverHall" "guestSector" "I", Cond.methodLink RX1 147 yX1_move, Cond.instanceMethod yX1_move, Cond.selects RX1 yX1_move yX1_move, Cond.initialized RX1, Cond.code yX1_move cX1_move 3 none, Cond.instanceMethod yX0_waitOneTick, Cond.initialized RX0, Cond.selects RX0 yX0_waitOneTick yX0_waitOneTick, Cond.code yX0_waitOneTick cX0_waitOneTick 1 none, Cond.fieldLink RX0 52 "MoverHall$Sector" "waitLeft" "I", Cond.fieldLink RX0 39 "MoverHall$Sector" "mover" "I", Cond.fieldLink RX0 49 "MoverHall$Sector" "way" "I", Cond.methodLink RX1 154 yX1_moveDoor, Cond.instanceMethod yX1_moveDoor, Cond.selects RX1 yX1_moveDoor yX1_moveDoor, Cond.code yX1_moveDoor cX1_moveDoor 3 none, Cond.methodLink RX1 118 Lib.Math.min.name, Cond.static Lib.Math.min.name, Cond.initialized "java/lang/Math"]
def wsX1_passOneTick_r2 : List Cond := [Cond.code Lib.Math.min.name Lib.Math.min.code 2 (some .int), Cond.methodLink RX1 164 yX1_closeDoor, Cond.instanceMethod yX1_closeDoor, Cond.selects RX1 yX1_closeDoor yX1_closeDoor, Cond.code yX1_closeDoor cX1_closeDoor 4 none, Cond.methodLink RX1 124 Lib.Math.max.name, Cond.static Lib.Math.max.name, Cond.code Lib.Math.max.name Lib.Math.max.code 2 (some .int), Cond.fieldLink RX1 61 "MoverHall" "blockedCount" "I", Cond.instanceMethod yX0_go, Cond.selects RX0 yX0_go yX0_go, Cond.code yX0_go cX0_go 2 none, Cond.methodLink RX1 170 yX1_finish, Cond.instanceMethod yX1_finish, Cond.selects RX1 yX1_finish yX1_finish, Cond.code yX1_finish cX1_finish 2 none, Cond.instanceMethod yX0_dropMover, Cond.selects RX0 yX0_dropMover yX0_dropMover, Cond.code yX0_dropMover cX0_dropMover 1 none, Cond.fieldLink RX0 42 "MoverHall$Sector" "wayEnd" "I", Cond.methodLink RX0 45 yX0_go, Cond.instanceMethod yX0_waitFor, Cond.selects RX0 yX0_waitFor yX0_waitFor, Cond.code yX0_waitFor cX0_waitFor 2 none]
def wsX1_passOneTick_r3 : List Cond := [Cond.methodLink RX1 157 yX1_moveLift, Cond.instanceMethod yX1_moveLift, Cond.selects RX1 yX1_moveLift yX1_moveLift, Cond.code yX1_moveLift cX1_moveLift 3 none, Cond.methodLink RX1 160 yX1_raiseFloor, Cond.instanceMethod yX1_raiseFloor, Cond.selects RX1 yX1_raiseFloor yX1_raiseFloor, Cond.code yX1_raiseFloor cX1_raiseFloor 6 none]
def wsX1_passOneTick : List Cond := .code yX1_passOneTick cX1_passOneTick 2 none :: ((wsX1_passOneTick_r1 ++ (wsX1_passOneTick_r2 ++ wsX1_passOneTick_r3)) ++ wsX10 ++ wsX00)
def wsX1_ticks_r1 : List Cond := [Cond.fieldLink RX1 55 "MoverHall" "tickCount" "I", Cond.methodLink RX1 27 yX1_isWithin, Cond.static yX1_isWithin, Cond.initialized RX1, Cond.code yX1_isWithin cX1_isWithin 3 (some .boolean), Cond.methodLink RX1 86 yX1_passOneTick, Cond.instanceMethod yX1_passOneTick, Cond.selects RX1 yX1_passOneTick yX1_passOneTick, Cond.code yX1_passOneTick cX1_passOneTick 2 none, Cond.fieldLink RX1 58 "MoverHall" "moverCount" "I", Cond.fieldLink RX1 20 "MoverHall" "sectorCount" "I", Cond.fieldLink RX1 11 "MoverHall" "sectors" "[LMoverHall$Sector;", Cond.fieldLink RX1 16 "MoverHall" "guestSector" "I", Cond.methodLink RX1 147 yX1_move, Cond.instanceMethod yX1_move, Cond.selects RX1 yX1_move yX1_move, Cond.code yX1_move cX1_move 3 none, Cond.instanceMethod yX0_waitOneTick, Cond.initialized RX0, Cond.selects RX0 yX0_waitOneTick yX0_waitOneTick, Cond.code yX0_waitOneTick cX0_waitOneTick 1 none, Cond.fieldLink RX0 52 "MoverHall$Sector" "waitLeft" "I", Cond.fieldLink RX0 39 "MoverHall$Sector" "mover" "I", Cond.fieldLink RX0 49 "MoverHall$Sector" "way" "I"]
def wsX1_ticks_r2 : List Cond := [Cond.methodLink RX1 154 yX1_moveDoor, Cond.instanceMethod yX1_moveDoor, Cond.selects RX1 yX1_moveDoor yX1_moveDoor, Cond.code yX1_moveDoor cX1_moveDoor 3 none, Cond.methodLink RX1 118 Lib.Math.min.name, Cond.static Lib.Math.min.name, Cond.initialized "java/lang/Math", Cond.code Lib.Math.min.name Lib.Math.min.code 2 (some .int), Cond.methodLink RX1 164 yX1_closeDoor, Cond.instanceMethod yX1_closeDoor, Cond.selects RX1 yX1_closeDoor yX1_closeDoor, Cond.code yX1_closeDoor cX1_closeDoor 4 none, Cond.methodLink RX1 124 Lib.Math.max.name, Cond.static Lib.Math.max.name, Cond.code Lib.Math.max.name Lib.Math.max.code 2 (some .int), Cond.fieldLink RX1 61 "MoverHall" "blockedCount" "I", Cond.instanceMethod yX0_go, Cond.selects RX0 yX0_go yX0_go, Cond.code yX0_go cX0_go 2 none, Cond.methodLink RX1 170 yX1_finish, Cond.instanceMethod yX1_finish, Cond.selects RX1 yX1_finish yX1_finish, Cond.code yX1_finish cX1_finish 2 none, Cond.instanceMethod yX0_dropMover]
def wsX1_ticks_r3 : List Cond := [Cond.selects RX0 yX0_dropMover yX0_dropMover, Cond.code yX0_dropMover cX0_dropMover 1 none, Cond.fieldLink RX0 42 "MoverHall$Sector" "wayEnd" "I", Cond.methodLink RX0 45 yX0_go, Cond.instanceMethod yX0_waitFor, Cond.selects RX0 yX0_waitFor yX0_waitFor, Cond.code yX0_waitFor cX0_waitFor 2 none, Cond.methodLink RX1 157 yX1_moveLift, Cond.instanceMethod yX1_moveLift, Cond.selects RX1 yX1_moveLift yX1_moveLift, Cond.code yX1_moveLift cX1_moveLift 3 none, Cond.methodLink RX1 160 yX1_raiseFloor, Cond.instanceMethod yX1_raiseFloor, Cond.selects RX1 yX1_raiseFloor yX1_raiseFloor, Cond.code yX1_raiseFloor cX1_raiseFloor 6 none]
def wsX1_ticks : List Cond := .code yX1_ticks cX1_ticks 3 (some .int) :: ((wsX1_ticks_r1 ++ (wsX1_ticks_r2 ++ wsX1_ticks_r3)) ++ wsX10 ++ wsX00)
def wsX1_lightNow : List Cond := .code yX1_lightNow cX1_lightNow 2 (some .int) :: ([.fieldLink RX1 55 "MoverHall" "tickCount" "I", .fieldLink RX1 58 "MoverHall" "moverCount" "I", .methodLink RX1 124 Lib.Math.max.name, .static Lib.Math.max.name, .initialized "java/lang/Math", .code Lib.Math.max.name Lib.Math.max.code 2 (some .int)] ++ wsX00 ++ wsX10)
def wsX1_of_r1 : List Cond := [Cond.constant RX1 89 (100000), Cond.fieldLink RX1 11 "MoverHall" "sectors" "[LMoverHall$Sector;", Cond.methodLink RX1 38 yX1_isSector, Cond.instanceMethod yX1_isSector, Cond.selects RX1 yX1_isSector yX1_isSector, Cond.initialized RX1, Cond.code yX1_isSector cX1_isSector 2 (some .boolean), Cond.fieldLink RX1 20 "MoverHall" "sectorCount" "I", Cond.methodLink RX1 96 yX1_lightNow, Cond.instanceMethod yX1_lightNow, Cond.selects RX1 yX1_lightNow yX1_lightNow, Cond.code yX1_lightNow cX1_lightNow 2 (some .int), Cond.fieldLink RX1 55 "MoverHall" "tickCount" "I", Cond.fieldLink RX1 58 "MoverHall" "moverCount" "I", Cond.methodLink RX1 124 Lib.Math.max.name, Cond.static Lib.Math.max.name, Cond.initialized "java/lang/Math", Cond.code Lib.Math.max.name Lib.Math.max.code 2 (some .int), Cond.methodLink RX1 103 yX1_lowFloor, Cond.instanceMethod yX1_lowFloor, Cond.selects RX1 yX1_lowFloor yX1_lowFloor, Cond.code yX1_lowFloor cX1_lowFloor 4 (some .int), Cond.methodLink RX1 118 Lib.Math.min.name, Cond.static Lib.Math.min.name]
def wsX1_of_r2 : List Cond := [Cond.code Lib.Math.min.name Lib.Math.min.code 2 (some .int), Cond.instanceMethod yX0_hasNeighbour, Cond.initialized RX0, Cond.selects RX0 yX0_hasNeighbour yX0_hasNeighbour, Cond.code yX0_hasNeighbour cX0_hasNeighbour 2 (some .boolean), Cond.fieldLink RX0 27 "MoverHall$Sector" "neighbours" "I", Cond.methodLink RX1 106 yX1_highFloor, Cond.instanceMethod yX1_highFloor, Cond.selects RX1 yX1_highFloor yX1_highFloor, Cond.code yX1_highFloor cX1_highFloor 4 (some .int), Cond.methodLink RX1 109 yX1_lowCeiling, Cond.instanceMethod yX1_lowCeiling, Cond.selects RX1 yX1_lowCeiling yX1_lowCeiling, Cond.code yX1_lowCeiling cX1_lowCeiling 4 (some .int), Cond.instanceMethod yX0_hasNeighbours, Cond.selects RX0 yX0_hasNeighbours yX0_hasNeighbours, Cond.code yX0_hasNeighbours cX0_hasNeighbours 1 (some .boolean)]
def wsX1_of : List Cond := .code yX1_of cX1_of 4 (some .int) :: ((wsX1_of_r1 ++ wsX1_of_r2) ++ wsX10 ++ wsX00)
def wsJ9_max_7cf53 : List Cond := .code yJ9_max_7cf53 cJ9_max_7cf53 2 (some .int) :: ([])
def wsJ9_min_7cf53 : List Cond := .code yJ9_min_7cf53 cJ9_min_7cf53 2 (some .int) :: ([])
def wsL_law_r1 : List Cond := [Cond.classLink RL 7 RX1, Cond.instantiable RX1 7, Cond.initialized RX1, Cond.methodLink RL 9 yX1_init, Cond.instanceMethod yX1_init, Cond.code yX1_init cX1_init 2 none, Cond.methodLink RX1 1 objectInit, Cond.instanceMethod objectInit, Cond.code objectInit ⟨#[0xb1]⟩ 1 none, Cond.classLink RX1 9 RX0, Cond.fieldLink RX1 11 "MoverHall" "sectors" "[LMoverHall$Sector;", Cond.instantiable RX0 13, Cond.initialized RX0, Cond.fieldLink RX1 16 "MoverHall" "guestSector" "I", Cond.instanceMethod yX0_init, Cond.code yX0_init cX0_init 1 none, Cond.methodLink RX0 3 objectInit, Cond.methodLink RL 13 yX1_sector, Cond.instanceMethod yX1_sector, Cond.selects RX1 yX1_sector yX1_sector, Cond.code yX1_sector cX1_sector 7 (some .int), Cond.fieldLink RX1 20 "MoverHall" "sectorCount" "I", Cond.methodLink RX1 23 yX1_isShape, Cond.static yX1_isShape]
def wsL_law_r2 : List Cond := [Cond.code yX1_isShape cX1_isShape 2 (some .boolean), Cond.methodLink RX1 27 yX1_isWithin, Cond.static yX1_isWithin, Cond.code yX1_isWithin cX1_isWithin 3 (some .boolean), Cond.instanceMethod yX0_plan, Cond.selects RX0 yX0_plan yX0_plan, Cond.code yX0_plan cX0_plan 6 none, Cond.fieldLink RX0 9 "MoverHall$Sector" "plannedFloor" "I", Cond.fieldLink RX0 15 "MoverHall$Sector" "plannedCeiling" "I", Cond.fieldLink RX0 18 "MoverHall$Sector" "light" "I", Cond.fieldLink RX0 21 "MoverHall$Sector" "kind" "I", Cond.fieldLink RX0 24 "MoverHall$Sector" "tag" "I", Cond.fieldLink RX0 27 "MoverHall$Sector" "neighbours" "I", Cond.methodLink RX1 35 yX1_reset, Cond.instanceMethod yX1_reset, Cond.selects RX1 yX1_reset yX1_reset, Cond.code yX1_reset cX1_reset 2 none, Cond.fieldLink RX1 55 "MoverHall" "tickCount" "I", Cond.fieldLink RX1 58 "MoverHall" "moverCount" "I", Cond.fieldLink RX1 61 "MoverHall" "blockedCount" "I", Cond.instanceMethod yX0_goBackToPlan, Cond.selects RX0 yX0_goBackToPlan yX0_goBackToPlan, Cond.code yX0_goBackToPlan cX0_goBackToPlan 1 none, Cond.fieldLink RX0 30 "MoverHall$Sector" "floor" "I"]
def wsL_law_r3 : List Cond := [Cond.fieldLink RX0 33 "MoverHall$Sector" "ceiling" "I", Cond.methodLink RX0 36 yX0_dropMover, Cond.instanceMethod yX0_dropMover, Cond.selects RX0 yX0_dropMover yX0_dropMover, Cond.code yX0_dropMover cX0_dropMover 1 none, Cond.fieldLink RX0 39 "MoverHall$Sector" "mover" "I", Cond.fieldLink RX0 42 "MoverHall$Sector" "wayEnd" "I", Cond.methodLink RX0 45 yX0_go, Cond.instanceMethod yX0_go, Cond.selects RX0 yX0_go yX0_go, Cond.code yX0_go cX0_go 2 none, Cond.fieldLink RX0 49 "MoverHall$Sector" "way" "I", Cond.fieldLink RX0 52 "MoverHall$Sector" "waitLeft" "I", Cond.methodLink RL 18 yX1_join, Cond.instanceMethod yX1_join, Cond.selects RX1 yX1_join yX1_join, Cond.code yX1_join cX1_join 3 (some .boolean), Cond.fieldLink RX1 49 "MoverHall" "pairCount" "I", Cond.methodLink RX1 38 yX1_isSector, Cond.instanceMethod yX1_isSector, Cond.selects RX1 yX1_isSector yX1_isSector, Cond.code yX1_isSector cX1_isSector 2 (some .boolean), Cond.instanceMethod yX0_hasNeighbour, Cond.selects RX0 yX0_hasNeighbour yX0_hasNeighbour]
def wsL_law_r4 : List Cond := [Cond.code yX0_hasNeighbour cX0_hasNeighbour 2 (some .boolean), Cond.instanceMethod yX0_addNeighbour, Cond.selects RX0 yX0_addNeighbour yX0_addNeighbour, Cond.code yX0_addNeighbour cX0_addNeighbour 2 none, Cond.methodLink RL 23 yX1_reset, Cond.methodLink RL 27 yX1_clear, Cond.instanceMethod yX1_clear, Cond.selects RX1 yX1_clear yX1_clear, Cond.code yX1_clear cX1_clear 1 none, Cond.methodLink RL 31 yX1_begin, Cond.instanceMethod yX1_begin, Cond.selects RX1 yX1_begin yX1_begin, Cond.code yX1_begin cX1_begin 4 (some .boolean), Cond.methodLink RX1 64 yX1_isMover, Cond.static yX1_isMover, Cond.code yX1_isMover cX1_isMover 1 (some .boolean), Cond.methodLink RX1 70 yX1_start, Cond.instanceMethod yX1_start, Cond.selects RX1 yX1_start yX1_start, Cond.code yX1_start cX1_start 3 none, Cond.methodLink RX1 140 yX1_endOfWay, Cond.instanceMethod yX1_endOfWay, Cond.selects RX1 yX1_endOfWay yX1_endOfWay, Cond.code yX1_endOfWay cX1_endOfWay 3 (some .int)]
def wsL_law_r5 : List Cond := [Cond.methodLink RX1 124 Lib.Math.max.name, Cond.static Lib.Math.max.name, Cond.initialized "java/lang/Math", Cond.code Lib.Math.max.name Lib.Math.max.code 2 (some .int), Cond.methodLink RX1 118 Lib.Math.min.name, Cond.static Lib.Math.min.name, Cond.code Lib.Math.min.name Lib.Math.min.code 2 (some .int), Cond.methodLink RX1 109 yX1_lowCeiling, Cond.instanceMethod yX1_lowCeiling, Cond.selects RX1 yX1_lowCeiling yX1_lowCeiling, Cond.code yX1_lowCeiling cX1_lowCeiling 4 (some .int), Cond.instanceMethod yX0_hasNeighbours, Cond.selects RX0 yX0_hasNeighbours yX0_hasNeighbours, Cond.code yX0_hasNeighbours cX0_hasNeighbours 1 (some .boolean), Cond.methodLink RX1 103 yX1_lowFloor, Cond.instanceMethod yX1_lowFloor, Cond.selects RX1 yX1_lowFloor yX1_lowFloor, Cond.code yX1_lowFloor cX1_lowFloor 4 (some .int), Cond.methodLink RX1 106 yX1_highFloor, Cond.instanceMethod yX1_highFloor, Cond.selects RX1 yX1_highFloor yX1_highFloor, Cond.code yX1_highFloor cX1_highFloor 4 (some .int), Cond.methodLink RL 35 yX1_tag, Cond.instanceMethod yX1_tag]
def wsL_law_r6 : List Cond := [Cond.selects RX1 yX1_tag yX1_tag, Cond.code yX1_tag cX1_tag 5 (some .int), Cond.methodLink RX1 83 yX1_begin, Cond.methodLink RL 40 yX1_enter, Cond.instanceMethod yX1_enter, Cond.selects RX1 yX1_enter yX1_enter, Cond.code yX1_enter cX1_enter 2 (some .boolean), Cond.methodLink RL 45 yX1_ticks, Cond.instanceMethod yX1_ticks, Cond.selects RX1 yX1_ticks yX1_ticks, Cond.code yX1_ticks cX1_ticks 3 (some .int), Cond.methodLink RX1 86 yX1_passOneTick, Cond.instanceMethod yX1_passOneTick, Cond.selects RX1 yX1_passOneTick yX1_passOneTick, Cond.code yX1_passOneTick cX1_passOneTick 2 none, Cond.methodLink RX1 147 yX1_move, Cond.instanceMethod yX1_move, Cond.selects RX1 yX1_move yX1_move, Cond.code yX1_move cX1_move 3 none, Cond.instanceMethod yX0_waitOneTick, Cond.selects RX0 yX0_waitOneTick yX0_waitOneTick, Cond.code yX0_waitOneTick cX0_waitOneTick 1 none, Cond.methodLink RX1 154 yX1_moveDoor, Cond.instanceMethod yX1_moveDoor]
def wsL_law_r7 : List Cond := [Cond.selects RX1 yX1_moveDoor yX1_moveDoor, Cond.code yX1_moveDoor cX1_moveDoor 3 none, Cond.methodLink RX1 164 yX1_closeDoor, Cond.instanceMethod yX1_closeDoor, Cond.selects RX1 yX1_closeDoor yX1_closeDoor, Cond.code yX1_closeDoor cX1_closeDoor 4 none, Cond.methodLink RX1 170 yX1_finish, Cond.instanceMethod yX1_finish, Cond.selects RX1 yX1_finish yX1_finish, Cond.code yX1_finish cX1_finish 2 none, Cond.instanceMethod yX0_waitFor, Cond.selects RX0 yX0_waitFor yX0_waitFor, Cond.code yX0_waitFor cX0_waitFor 2 none, Cond.methodLink RX1 157 yX1_moveLift, Cond.instanceMethod yX1_moveLift, Cond.selects RX1 yX1_moveLift yX1_moveLift, Cond.code yX1_moveLift cX1_moveLift 3 none, Cond.methodLink RX1 160 yX1_raiseFloor, Cond.instanceMethod yX1_raiseFloor, Cond.selects RX1 yX1_raiseFloor yX1_raiseFloor, Cond.code yX1_raiseFloor cX1_raiseFloor 6 none, Cond.methodLink RL 50 yX1_of, Cond.instanceMethod yX1_of, Cond.selects RX1 yX1_of yX1_of]
def wsL_law_r8 : List Cond := [Cond.code yX1_of cX1_of 4 (some .int), Cond.constant RX1 89 (100000), Cond.methodLink RX1 96 yX1_lightNow, Cond.instanceMethod yX1_lightNow, Cond.selects RX1 yX1_lightNow yX1_lightNow, Cond.code yX1_lightNow cX1_lightNow 2 (some .int)]
def wsL_law : List Cond := (wsL_law_r1 ++ (wsL_law_r2 ++ (wsL_law_r3 ++ (wsL_law_r4 ++ (wsL_law_r5 ++ (wsL_law_r6 ++ (wsL_law_r7 ++ wsL_law_r8))))))) ++ wsX10 ++ wsX00 ++ ([] : List Cond)
set_option maxRecDepth 20000 in
theorem wsL_law_in : ∀ w ∈ wsL_law, w ∈ lw_tbl := fun w h => (goodIn_p wsL_law [43, 46, 52, 128, 131, 134, 138, 142, 146, 150, 154, 158, 162, 166, 170, 175, 179, 182, 186, 190, 204, 201, 194, 198, 208, 212, 217, 222, 226, 230, 234, 238, 242, 246, 250, 255, 259, 263, 267, 272] (by decide +kernel) (by decide +kernel) w h).1
theorem inlX0 : ∀ w ∈ wsX00, w ∈ wsL_law := fun _ h => List.mem_append_left _ (List.mem_append_right _ h)
theorem inX0 : ∀ w ∈ wsX00, w ∈ lw_tbl := fun w h => wsL_law_in w (inlX0 w h)
theorem inlX1 : ∀ w ∈ wsX10, w ∈ wsL_law := fun _ h => List.mem_append_left _ (List.mem_append_left _ (List.mem_append_right _ h))
theorem inX1 : ∀ w ∈ wsX10, w ∈ lw_tbl := fun w h => wsL_law_in w (inlX1 w h)
theorem inX2 : ∀ w ∈ wsX20, w ∈ lw_tbl := by decide +kernel
theorem inJ9 : ∀ w ∈ wsJ90, w ∈ lw_tbl := by decide +kernel
theorem dX0_init_0 : decode cX0_init 0 = .ok (.aload_n 0, 1) := by decide +kernel
theorem dX0_init_1 : decode cX0_init 1 = .ok (.invokespecial 3, 3) := by decide +kernel
theorem dX0_init_4 : decode cX0_init 4 = .ok (.return_, 1) := by decide +kernel
theorem dX0_plan_0 : decode cX0_plan 0 = .ok (.aload_n 0, 1) := by decide +kernel
theorem dX0_plan_1 : decode cX0_plan 1 = .ok (.iload_n 1, 1) := by decide +kernel
theorem dX0_plan_2 : decode cX0_plan 2 = .ok (.putfield 9, 3) := by decide +kernel
theorem dX0_plan_5 : decode cX0_plan 5 = .ok (.aload_n 0, 1) := by decide +kernel
theorem dX0_plan_6 : decode cX0_plan 6 = .ok (.iload_n 2, 1) := by decide +kernel
theorem dX0_plan_7 : decode cX0_plan 7 = .ok (.putfield 15, 3) := by decide +kernel
theorem dX0_plan_10 : decode cX0_plan 10 = .ok (.aload_n 0, 1) := by decide +kernel
theorem dX0_plan_11 : decode cX0_plan 11 = .ok (.iload_n 3, 1) := by decide +kernel
theorem dX0_plan_12 : decode cX0_plan 12 = .ok (.putfield 18, 3) := by decide +kernel
theorem dX0_plan_15 : decode cX0_plan 15 = .ok (.aload_n 0, 1) := by decide +kernel
theorem dX0_plan_16 : decode cX0_plan 16 = .ok (.iload 4, 2) := by decide +kernel
theorem dX0_plan_18 : decode cX0_plan 18 = .ok (.putfield 21, 3) := by decide +kernel
theorem dX0_plan_21 : decode cX0_plan 21 = .ok (.aload_n 0, 1) := by decide +kernel
theorem dX0_plan_22 : decode cX0_plan 22 = .ok (.iload 5, 2) := by decide +kernel
theorem dX0_plan_24 : decode cX0_plan 24 = .ok (.putfield 24, 3) := by decide +kernel
theorem dX0_plan_27 : decode cX0_plan 27 = .ok (.aload_n 0, 1) := by decide +kernel
theorem dX0_plan_28 : decode cX0_plan 28 = .ok (.iconst 0, 1) := by decide +kernel
theorem dX0_plan_29 : decode cX0_plan 29 = .ok (.putfield 27, 3) := by decide +kernel
theorem dX0_plan_32 : decode cX0_plan 32 = .ok (.return_, 1) := by decide +kernel
set_option maxRecDepth 20000 in
theorem ggX0_goBackToPlan_X0_dropMover : GoodIn wsX0_goBackToPlan wsX0_dropMover := goodIn_r _ [9, 10, 11, 12, 13, 14, 8, 15, 16, 17, 18, 19, 20, 21, 22, 23, 24, 25, 26, 27, 28, 29, 30] (by decide +kernel) (by decide +kernel)
set_option maxRecDepth 20000 in
theorem gX0_goBackToPlan_X0_dropMover : GoodIn wsX0_goBackToPlan (wsV RX0 36 RX0 yX0_dropMover wsX0_dropMover) := goodIn_app (goodIn_of _ (by decide +kernel)) ggX0_goBackToPlan_X0_dropMover
theorem dX0_goBackToPlan_0 : decode cX0_goBackToPlan 0 = .ok (.aload_n 0, 1) := by decide +kernel
theorem dX0_goBackToPlan_1 : decode cX0_goBackToPlan 1 = .ok (.aload_n 0, 1) := by decide +kernel
theorem dX0_goBackToPlan_2 : decode cX0_goBackToPlan 2 = .ok (.getfield 9, 3) := by decide +kernel
theorem dX0_goBackToPlan_5 : decode cX0_goBackToPlan 5 = .ok (.putfield 30, 3) := by decide +kernel
theorem dX0_goBackToPlan_8 : decode cX0_goBackToPlan 8 = .ok (.aload_n 0, 1) := by decide +kernel
theorem dX0_goBackToPlan_9 : decode cX0_goBackToPlan 9 = .ok (.aload_n 0, 1) := by decide +kernel
theorem dX0_goBackToPlan_10 : decode cX0_goBackToPlan 10 = .ok (.getfield 15, 3) := by decide +kernel
theorem dX0_goBackToPlan_13 : decode cX0_goBackToPlan 13 = .ok (.putfield 33, 3) := by decide +kernel
theorem dX0_goBackToPlan_16 : decode cX0_goBackToPlan 16 = .ok (.aload_n 0, 1) := by decide +kernel
theorem dX0_goBackToPlan_17 : decode cX0_goBackToPlan 17 = .ok (.invokevirtual 36, 3) := by decide +kernel
theorem dX0_goBackToPlan_20 : decode cX0_goBackToPlan 20 = .ok (.return_, 1) := by decide +kernel
set_option maxRecDepth 20000 in
theorem ggX0_dropMover_X0_go : GoodIn wsX0_dropMover wsX0_go := goodIn_r _ [7, 8, 9, 10, 11, 12, 13, 14, 15, 16, 17, 18, 19, 20, 21, 22] (by decide +kernel) (by decide +kernel)
set_option maxRecDepth 20000 in
theorem gX0_dropMover_X0_go : GoodIn wsX0_dropMover (wsV RX0 45 RX0 yX0_go wsX0_go) := goodIn_app (goodIn_of _ (by decide +kernel)) ggX0_dropMover_X0_go
theorem dX0_dropMover_0 : decode cX0_dropMover 0 = .ok (.aload_n 0, 1) := by decide +kernel
theorem dX0_dropMover_1 : decode cX0_dropMover 1 = .ok (.iconst (-1), 1) := by decide +kernel
theorem dX0_dropMover_2 : decode cX0_dropMover 2 = .ok (.putfield 39, 3) := by decide +kernel
theorem dX0_dropMover_5 : decode cX0_dropMover 5 = .ok (.aload_n 0, 1) := by decide +kernel
theorem dX0_dropMover_6 : decode cX0_dropMover 6 = .ok (.iconst (-1), 1) := by decide +kernel
theorem dX0_dropMover_7 : decode cX0_dropMover 7 = .ok (.putfield 42, 3) := by decide +kernel
theorem dX0_dropMover_10 : decode cX0_dropMover 10 = .ok (.aload_n 0, 1) := by decide +kernel
theorem dX0_dropMover_11 : decode cX0_dropMover 11 = .ok (.iconst 0, 1) := by decide +kernel
theorem dX0_dropMover_12 : decode cX0_dropMover 12 = .ok (.invokevirtual 45, 3) := by decide +kernel
theorem dX0_dropMover_15 : decode cX0_dropMover 15 = .ok (.return_, 1) := by decide +kernel
theorem dX0_hasNeighbour_0 : decode cX0_hasNeighbour 0 = .ok (.aload_n 0, 1) := by decide +kernel
theorem dX0_hasNeighbour_1 : decode cX0_hasNeighbour 1 = .ok (.getfield 27, 3) := by decide +kernel
theorem dX0_hasNeighbour_4 : decode cX0_hasNeighbour 4 = .ok (.iload_n 1, 1) := by decide +kernel
theorem dX0_hasNeighbour_5 : decode cX0_hasNeighbour 5 = .ok (.iushr, 1) := by decide +kernel
theorem dX0_hasNeighbour_6 : decode cX0_hasNeighbour 6 = .ok (.iconst 1, 1) := by decide +kernel
theorem dX0_hasNeighbour_7 : decode cX0_hasNeighbour 7 = .ok (.iand, 1) := by decide +kernel
theorem dX0_hasNeighbour_8 : decode cX0_hasNeighbour 8 = .ok (.ifCond .eq 7, 3) := by decide +kernel
theorem dX0_hasNeighbour_11 : decode cX0_hasNeighbour 11 = .ok (.iconst 1, 1) := by decide +kernel
theorem dX0_hasNeighbour_12 : decode cX0_hasNeighbour 12 = .ok (.goto 4, 3) := by decide +kernel
theorem dX0_hasNeighbour_15 : decode cX0_hasNeighbour 15 = .ok (.iconst 0, 1) := by decide +kernel
theorem dX0_hasNeighbour_16 : decode cX0_hasNeighbour 16 = .ok (.ireturn, 1) := by decide +kernel
theorem dX0_hasNeighbours_0 : decode cX0_hasNeighbours 0 = .ok (.aload_n 0, 1) := by decide +kernel
theorem dX0_hasNeighbours_1 : decode cX0_hasNeighbours 1 = .ok (.getfield 27, 3) := by decide +kernel
theorem dX0_hasNeighbours_4 : decode cX0_hasNeighbours 4 = .ok (.ifCond .eq 7, 3) := by decide +kernel
theorem dX0_hasNeighbours_7 : decode cX0_hasNeighbours 7 = .ok (.iconst 1, 1) := by decide +kernel
theorem dX0_hasNeighbours_8 : decode cX0_hasNeighbours 8 = .ok (.goto 4, 3) := by decide +kernel
theorem dX0_hasNeighbours_11 : decode cX0_hasNeighbours 11 = .ok (.iconst 0, 1) := by decide +kernel
theorem dX0_hasNeighbours_12 : decode cX0_hasNeighbours 12 = .ok (.ireturn, 1) := by decide +kernel
theorem dX0_addNeighbour_0 : decode cX0_addNeighbour 0 = .ok (.aload_n 0, 1) := by decide +kernel
theorem dX0_addNeighbour_1 : decode cX0_addNeighbour 1 = .ok (.dup, 1) := by decide +kernel
theorem dX0_addNeighbour_2 : decode cX0_addNeighbour 2 = .ok (.getfield 27, 3) := by decide +kernel
theorem dX0_addNeighbour_5 : decode cX0_addNeighbour 5 = .ok (.iconst 1, 1) := by decide +kernel
theorem dX0_addNeighbour_6 : decode cX0_addNeighbour 6 = .ok (.iload_n 1, 1) := by decide +kernel
theorem dX0_addNeighbour_7 : decode cX0_addNeighbour 7 = .ok (.ishl, 1) := by decide +kernel
theorem dX0_addNeighbour_8 : decode cX0_addNeighbour 8 = .ok (.ior, 1) := by decide +kernel
theorem dX0_addNeighbour_9 : decode cX0_addNeighbour 9 = .ok (.putfield 27, 3) := by decide +kernel
theorem dX0_addNeighbour_12 : decode cX0_addNeighbour 12 = .ok (.return_, 1) := by decide +kernel
theorem dX0_go_0 : decode cX0_go 0 = .ok (.aload_n 0, 1) := by decide +kernel
theorem dX0_go_1 : decode cX0_go 1 = .ok (.iload_n 1, 1) := by decide +kernel
theorem dX0_go_2 : decode cX0_go 2 = .ok (.putfield 49, 3) := by decide +kernel
theorem dX0_go_5 : decode cX0_go 5 = .ok (.aload_n 0, 1) := by decide +kernel
theorem dX0_go_6 : decode cX0_go 6 = .ok (.iconst 0, 1) := by decide +kernel
theorem dX0_go_7 : decode cX0_go 7 = .ok (.putfield 52, 3) := by decide +kernel
theorem dX0_go_10 : decode cX0_go 10 = .ok (.return_, 1) := by decide +kernel
theorem dX0_waitFor_0 : decode cX0_waitFor 0 = .ok (.aload_n 0, 1) := by decide +kernel
theorem dX0_waitFor_1 : decode cX0_waitFor 1 = .ok (.iconst 0, 1) := by decide +kernel
theorem dX0_waitFor_2 : decode cX0_waitFor 2 = .ok (.putfield 49, 3) := by decide +kernel
theorem dX0_waitFor_5 : decode cX0_waitFor 5 = .ok (.aload_n 0, 1) := by decide +kernel
theorem dX0_waitFor_6 : decode cX0_waitFor 6 = .ok (.iload_n 1, 1) := by decide +kernel
theorem dX0_waitFor_7 : decode cX0_waitFor 7 = .ok (.putfield 52, 3) := by decide +kernel
theorem dX0_waitFor_10 : decode cX0_waitFor 10 = .ok (.return_, 1) := by decide +kernel
theorem dX0_waitOneTick_0 : decode cX0_waitOneTick 0 = .ok (.aload_n 0, 1) := by decide +kernel
theorem dX0_waitOneTick_1 : decode cX0_waitOneTick 1 = .ok (.dup, 1) := by decide +kernel
theorem dX0_waitOneTick_2 : decode cX0_waitOneTick 2 = .ok (.getfield 52, 3) := by decide +kernel
theorem dX0_waitOneTick_5 : decode cX0_waitOneTick 5 = .ok (.iconst 1, 1) := by decide +kernel
theorem dX0_waitOneTick_6 : decode cX0_waitOneTick 6 = .ok (.isub, 1) := by decide +kernel
theorem dX0_waitOneTick_7 : decode cX0_waitOneTick 7 = .ok (.putfield 52, 3) := by decide +kernel
theorem dX0_waitOneTick_10 : decode cX0_waitOneTick 10 = .ok (.aload_n 0, 1) := by decide +kernel
theorem dX0_waitOneTick_11 : decode cX0_waitOneTick 11 = .ok (.getfield 52, 3) := by decide +kernel
theorem dX0_waitOneTick_14 : decode cX0_waitOneTick 14 = .ok (.ifCond .ne 19, 3) := by decide +kernel
theorem dX0_waitOneTick_17 : decode cX0_waitOneTick 17 = .ok (.aload_n 0, 1) := by decide +kernel
theorem dX0_waitOneTick_18 : decode cX0_waitOneTick 18 = .ok (.aload_n 0, 1) := by decide +kernel
theorem dX0_waitOneTick_19 : decode cX0_waitOneTick 19 = .ok (.getfield 39, 3) := by decide +kernel
theorem dX0_waitOneTick_22 : decode cX0_waitOneTick 22 = .ok (.ifCond .ne 7, 3) := by decide +kernel
theorem dX0_waitOneTick_25 : decode cX0_waitOneTick 25 = .ok (.iconst (-1), 1) := by decide +kernel
theorem dX0_waitOneTick_26 : decode cX0_waitOneTick 26 = .ok (.goto 4, 3) := by decide +kernel
theorem dX0_waitOneTick_29 : decode cX0_waitOneTick 29 = .ok (.iconst 1, 1) := by decide +kernel
theorem dX0_waitOneTick_30 : decode cX0_waitOneTick 30 = .ok (.putfield 49, 3) := by decide +kernel
theorem dX0_waitOneTick_33 : decode cX0_waitOneTick 33 = .ok (.return_, 1) := by decide +kernel
set_option maxRecDepth 20000 in
theorem ggX1_init_X0_init : GoodIn wsX1_init wsX0_init := goodIn_r _ [10, 11, 2, 3] (by decide +kernel) (by decide +kernel)
set_option maxRecDepth 20000 in
theorem gX1_init_X0_init_n15 : GoodIn wsX1_init (wsX0_init) := ggX1_init_X0_init
theorem dX1_init_0 : decode cX1_init 0 = .ok (.aload_n 0, 1) := by decide +kernel
theorem dX1_init_1 : decode cX1_init 1 = .ok (.invokespecial 1, 3) := by decide +kernel
theorem dX1_init_4 : decode cX1_init 4 = .ok (.aload_n 0, 1) := by decide +kernel
theorem dX1_init_5 : decode cX1_init 5 = .ok (.bipush 32, 2) := by decide +kernel
theorem dX1_init_7 : decode cX1_init 7 = .ok (.anewarray 9, 3) := by decide +kernel
theorem dX1_init_10 : decode cX1_init 10 = .ok (.putfield 11, 3) := by decide +kernel
theorem dX1_init_13 : decode cX1_init 13 = .ok (.iconst 0, 1) := by decide +kernel
theorem dX1_init_14 : decode cX1_init 14 = .ok (.istore_n 1, 1) := by decide +kernel
theorem dX1_init_15 : decode cX1_init 15 = .ok (.iload_n 1, 1) := by decide +kernel
theorem dX1_init_16 : decode cX1_init 16 = .ok (.bipush 32, 2) := by decide +kernel
theorem dX1_init_18 : decode cX1_init 18 = .ok (.if_icmp .ge 22, 3) := by decide +kernel
theorem dX1_init_21 : decode cX1_init 21 = .ok (.aload_n 0, 1) := by decide +kernel
theorem dX1_init_22 : decode cX1_init 22 = .ok (.getfield 11, 3) := by decide +kernel
theorem dX1_init_25 : decode cX1_init 25 = .ok (.iload_n 1, 1) := by decide +kernel
theorem dX1_init_26 : decode cX1_init 26 = .ok (.new 9, 3) := by decide +kernel
theorem dX1_init_29 : decode cX1_init 29 = .ok (.dup, 1) := by decide +kernel
theorem dX1_init_30 : decode cX1_init 30 = .ok (.invokespecial 15, 3) := by decide +kernel
theorem dX1_init_33 : decode cX1_init 33 = .ok (.aastore, 1) := by decide +kernel
theorem dX1_init_34 : decode cX1_init 34 = .ok (.iinc 1 1, 3) := by decide +kernel
theorem dX1_init_37 : decode cX1_init 37 = .ok (.goto (-22), 3) := by decide +kernel
theorem dX1_init_40 : decode cX1_init 40 = .ok (.aload_n 0, 1) := by decide +kernel
theorem dX1_init_41 : decode cX1_init 41 = .ok (.iconst (-1), 1) := by decide +kernel
theorem dX1_init_42 : decode cX1_init 42 = .ok (.putfield 16, 3) := by decide +kernel
theorem dX1_init_45 : decode cX1_init 45 = .ok (.return_, 1) := by decide +kernel
set_option maxRecDepth 20000 in
theorem ggX1_sector_X1_isShape : GoodIn wsX1_sector wsX1_isShape := goodIn_r _ [6] (by decide +kernel) (by decide +kernel)
set_option maxRecDepth 20000 in
theorem gX1_sector_X1_isShape : GoodIn wsX1_sector (va_wsS RX1 23 yX1_isShape wsX1_isShape) := goodIn_app (goodIn_of _ (by decide +kernel)) ggX1_sector_X1_isShape
set_option maxRecDepth 20000 in
theorem ggX1_sector_X1_isWithin : GoodIn wsX1_sector wsX1_isWithin := goodIn_r _ [9] (by decide +kernel) (by decide +kernel)
set_option maxRecDepth 20000 in
theorem gX1_sector_X1_isWithin : GoodIn wsX1_sector (va_wsS RX1 27 yX1_isWithin wsX1_isWithin) := goodIn_app (goodIn_of _ (by decide +kernel)) ggX1_sector_X1_isWithin
set_option maxRecDepth 20000 in
theorem ggX1_sector_X0_plan : GoodIn wsX1_sector wsX0_plan := goodIn_r _ [13, 14, 15, 16, 17, 18, 19, 52, 53, 54, 55, 56, 57, 58, 59, 60, 61, 62, 63, 64] (by decide +kernel) (by decide +kernel)
set_option maxRecDepth 20000 in
theorem gX1_sector_X0_plan_n31 : GoodIn wsX1_sector (wsX0_plan) := ggX1_sector_X0_plan
set_option maxRecDepth 20000 in
theorem ggX1_sector_X1_reset : GoodIn wsX1_sector wsX1_reset := goodIn_r _ [23, 1, 2, 24, 25, 26, 27, 28, 11, 29, 30, 14, 31, 15, 32, 33, 34, 35, 36, 37, 38, 39, 40, 41, 42, 43, 44, 45, 46, 47, 48, 49, 50, 51, 52, 53, 54, 55, 56, 57, 58, 59, 60, 61, 62, 63, 64] (by decide +kernel) (by decide +kernel)
set_option maxRecDepth 20000 in
theorem gX1_sector_X1_reset : GoodIn wsX1_sector (wsV RX1 35 RX1 yX1_reset wsX1_reset) := goodIn_app (goodIn_of _ (by decide +kernel)) ggX1_sector_X1_reset
theorem dX1_sector_0 : decode cX1_sector 0 = .ok (.aload_n 0, 1) := by decide +kernel
theorem dX1_sector_1 : decode cX1_sector 1 = .ok (.getfield 20, 3) := by decide +kernel
theorem dX1_sector_4 : decode cX1_sector 4 = .ok (.bipush 32, 2) := by decide +kernel
theorem dX1_sector_6 : decode cX1_sector 6 = .ok (.if_icmp .ge 43, 3) := by decide +kernel
theorem dX1_sector_9 : decode cX1_sector 9 = .ok (.iload_n 1, 1) := by decide +kernel
theorem dX1_sector_10 : decode cX1_sector 10 = .ok (.iload_n 2, 1) := by decide +kernel
theorem dX1_sector_11 : decode cX1_sector 11 = .ok (.invokestatic 23, 3) := by decide +kernel
theorem dX1_sector_14 : decode cX1_sector 14 = .ok (.ifCond .eq 35, 3) := by decide +kernel
theorem dX1_sector_17 : decode cX1_sector 17 = .ok (.iload_n 3, 1) := by decide +kernel
theorem dX1_sector_18 : decode cX1_sector 18 = .ok (.iconst 0, 1) := by decide +kernel
theorem dX1_sector_19 : decode cX1_sector 19 = .ok (.bipush 15, 2) := by decide +kernel
theorem dX1_sector_21 : decode cX1_sector 21 = .ok (.invokestatic 27, 3) := by decide +kernel
theorem dX1_sector_24 : decode cX1_sector 24 = .ok (.ifCond .eq 25, 3) := by decide +kernel
theorem dX1_sector_27 : decode cX1_sector 27 = .ok (.iload 4, 2) := by decide +kernel
theorem dX1_sector_29 : decode cX1_sector 29 = .ok (.iconst 0, 1) := by decide +kernel
theorem dX1_sector_30 : decode cX1_sector 30 = .ok (.iconst 3, 1) := by decide +kernel
theorem dX1_sector_31 : decode cX1_sector 31 = .ok (.invokestatic 27, 3) := by decide +kernel
theorem dX1_sector_34 : decode cX1_sector 34 = .ok (.ifCond .eq 15, 3) := by decide +kernel
theorem dX1_sector_37 : decode cX1_sector 37 = .ok (.iload 5, 2) := by decide +kernel
theorem dX1_sector_39 : decode cX1_sector 39 = .ok (.iconst 0, 1) := by decide +kernel
theorem dX1_sector_40 : decode cX1_sector 40 = .ok (.sipush 255, 3) := by decide +kernel
theorem dX1_sector_43 : decode cX1_sector 43 = .ok (.invokestatic 27, 3) := by decide +kernel
theorem dX1_sector_46 : decode cX1_sector 46 = .ok (.ifCond .ne 5, 3) := by decide +kernel
theorem dX1_sector_49 : decode cX1_sector 49 = .ok (.iconst (-1), 1) := by decide +kernel
theorem dX1_sector_50 : decode cX1_sector 50 = .ok (.ireturn, 1) := by decide +kernel
theorem dX1_sector_51 : decode cX1_sector 51 = .ok (.aload_n 0, 1) := by decide +kernel
theorem dX1_sector_52 : decode cX1_sector 52 = .ok (.getfield 20, 3) := by decide +kernel
theorem dX1_sector_55 : decode cX1_sector 55 = .ok (.istore 6, 2) := by decide +kernel
theorem dX1_sector_57 : decode cX1_sector 57 = .ok (.aload_n 0, 1) := by decide +kernel
theorem dX1_sector_58 : decode cX1_sector 58 = .ok (.getfield 11, 3) := by decide +kernel
theorem dX1_sector_61 : decode cX1_sector 61 = .ok (.iload 6, 2) := by decide +kernel
theorem dX1_sector_63 : decode cX1_sector 63 = .ok (.aaload, 1) := by decide +kernel
theorem dX1_sector_64 : decode cX1_sector 64 = .ok (.iload_n 1, 1) := by decide +kernel
theorem dX1_sector_65 : decode cX1_sector 65 = .ok (.iload_n 2, 1) := by decide +kernel
theorem dX1_sector_66 : decode cX1_sector 66 = .ok (.iload_n 3, 1) := by decide +kernel
theorem dX1_sector_67 : decode cX1_sector 67 = .ok (.iload 4, 2) := by decide +kernel
theorem dX1_sector_69 : decode cX1_sector 69 = .ok (.iload 5, 2) := by decide +kernel
theorem dX1_sector_71 : decode cX1_sector 71 = .ok (.invokevirtual 31, 3) := by decide +kernel
theorem dX1_sector_74 : decode cX1_sector 74 = .ok (.aload_n 0, 1) := by decide +kernel
theorem dX1_sector_75 : decode cX1_sector 75 = .ok (.dup, 1) := by decide +kernel
theorem dX1_sector_76 : decode cX1_sector 76 = .ok (.getfield 20, 3) := by decide +kernel
theorem dX1_sector_79 : decode cX1_sector 79 = .ok (.iconst 1, 1) := by decide +kernel
theorem dX1_sector_80 : decode cX1_sector 80 = .ok (.iadd, 1) := by decide +kernel
theorem dX1_sector_81 : decode cX1_sector 81 = .ok (.putfield 20, 3) := by decide +kernel
theorem dX1_sector_84 : decode cX1_sector 84 = .ok (.aload_n 0, 1) := by decide +kernel
theorem dX1_sector_85 : decode cX1_sector 85 = .ok (.invokevirtual 35, 3) := by decide +kernel
theorem dX1_sector_88 : decode cX1_sector 88 = .ok (.iload 6, 2) := by decide +kernel
theorem dX1_sector_90 : decode cX1_sector 90 = .ok (.ireturn, 1) := by decide +kernel
set_option maxRecDepth 20000 in
theorem ggX1_join_X1_isSector : GoodIn wsX1_join wsX1_isSector := goodIn_r _ [7, 8, 17, 18, 19, 20, 21, 22, 23] (by decide +kernel) (by decide +kernel)
set_option maxRecDepth 20000 in
theorem gX1_join_X1_isSector : GoodIn wsX1_join (wsV RX1 38 RX1 yX1_isSector wsX1_isSector) := goodIn_app (goodIn_of _ (by decide +kernel)) ggX1_join_X1_isSector
set_option maxRecDepth 20000 in
theorem ggX1_join_X0_hasNeighbour : GoodIn wsX1_join wsX0_hasNeighbour := goodIn_r _ [12, 13, 24, 25, 26, 27, 28, 29, 30, 31, 32, 33, 34, 35, 36] (by decide +kernel) (by decide +kernel)
set_option maxRecDepth 20000 in
theorem gX1_join_X0_hasNeighbour_n42 : GoodIn wsX1_join (wsX0_hasNeighbour) := ggX1_join_X0_hasNeighbour
set_option maxRecDepth 20000 in
theorem ggX1_join_X0_addNeighbour : GoodIn wsX1_join wsX0_addNeighbour := goodIn_r _ [16, 13, 24, 25, 26, 27, 28, 29, 30, 31, 32, 33, 34, 35, 36] (by decide +kernel) (by decide +kernel)
set_option maxRecDepth 20000 in
theorem gX1_join_X0_addNeighbour_n45 : GoodIn wsX1_join (wsX0_addNeighbour) := ggX1_join_X0_addNeighbour
theorem dX1_join_0 : decode cX1_join 0 = .ok (.aload_n 0, 1) := by decide +kernel
theorem dX1_join_1 : decode cX1_join 1 = .ok (.iload_n 1, 1) := by decide +kernel
theorem dX1_join_2 : decode cX1_join 2 = .ok (.invokevirtual 38, 3) := by decide +kernel
theorem dX1_join_5 : decode cX1_join 5 = .ok (.ifCond .eq 29, 3) := by decide +kernel
theorem dX1_join_8 : decode cX1_join 8 = .ok (.aload_n 0, 1) := by decide +kernel
theorem dX1_join_9 : decode cX1_join 9 = .ok (.iload_n 2, 1) := by decide +kernel
theorem dX1_join_10 : decode cX1_join 10 = .ok (.invokevirtual 38, 3) := by decide +kernel
theorem dX1_join_13 : decode cX1_join 13 = .ok (.ifCond .eq 21, 3) := by decide +kernel
theorem dX1_join_16 : decode cX1_join 16 = .ok (.iload_n 1, 1) := by decide +kernel
theorem dX1_join_17 : decode cX1_join 17 = .ok (.iload_n 2, 1) := by decide +kernel
theorem dX1_join_18 : decode cX1_join 18 = .ok (.if_icmp .eq 16, 3) := by decide +kernel
theorem dX1_join_21 : decode cX1_join 21 = .ok (.aload_n 0, 1) := by decide +kernel
theorem dX1_join_22 : decode cX1_join 22 = .ok (.getfield 11, 3) := by decide +kernel
theorem dX1_join_25 : decode cX1_join 25 = .ok (.iload_n 1, 1) := by decide +kernel
theorem dX1_join_26 : decode cX1_join 26 = .ok (.aaload, 1) := by decide +kernel
theorem dX1_join_27 : decode cX1_join 27 = .ok (.iload_n 2, 1) := by decide +kernel
theorem dX1_join_28 : decode cX1_join 28 = .ok (.invokevirtual 42, 3) := by decide +kernel
theorem dX1_join_31 : decode cX1_join 31 = .ok (.ifCond .eq 5, 3) := by decide +kernel
theorem dX1_join_34 : decode cX1_join 34 = .ok (.iconst 0, 1) := by decide +kernel
theorem dX1_join_35 : decode cX1_join 35 = .ok (.ireturn, 1) := by decide +kernel
theorem dX1_join_36 : decode cX1_join 36 = .ok (.aload_n 0, 1) := by decide +kernel
theorem dX1_join_37 : decode cX1_join 37 = .ok (.getfield 11, 3) := by decide +kernel
theorem dX1_join_40 : decode cX1_join 40 = .ok (.iload_n 1, 1) := by decide +kernel
theorem dX1_join_41 : decode cX1_join 41 = .ok (.aaload, 1) := by decide +kernel
theorem dX1_join_42 : decode cX1_join 42 = .ok (.iload_n 2, 1) := by decide +kernel
theorem dX1_join_43 : decode cX1_join 43 = .ok (.invokevirtual 45, 3) := by decide +kernel
theorem dX1_join_46 : decode cX1_join 46 = .ok (.aload_n 0, 1) := by decide +kernel
theorem dX1_join_47 : decode cX1_join 47 = .ok (.getfield 11, 3) := by decide +kernel
theorem dX1_join_50 : decode cX1_join 50 = .ok (.iload_n 2, 1) := by decide +kernel
theorem dX1_join_51 : decode cX1_join 51 = .ok (.aaload, 1) := by decide +kernel
theorem dX1_join_52 : decode cX1_join 52 = .ok (.iload_n 1, 1) := by decide +kernel
theorem dX1_join_53 : decode cX1_join 53 = .ok (.invokevirtual 45, 3) := by decide +kernel
theorem dX1_join_56 : decode cX1_join 56 = .ok (.aload_n 0, 1) := by decide +kernel
theorem dX1_join_57 : decode cX1_join 57 = .ok (.dup, 1) := by decide +kernel
theorem dX1_join_58 : decode cX1_join 58 = .ok (.getfield 49, 3) := by decide +kernel
theorem dX1_join_61 : decode cX1_join 61 = .ok (.iconst 1, 1) := by decide +kernel
theorem dX1_join_62 : decode cX1_join 62 = .ok (.iadd, 1) := by decide +kernel
theorem dX1_join_63 : decode cX1_join 63 = .ok (.putfield 49, 3) := by decide +kernel
theorem dX1_join_66 : decode cX1_join 66 = .ok (.iconst 1, 1) := by decide +kernel
theorem dX1_join_67 : decode cX1_join 67 = .ok (.ireturn, 1) := by decide +kernel
set_option maxRecDepth 20000 in
theorem ggX1_reset_X0_goBackToPlan : GoodIn wsX1_reset wsX0_goBackToPlan := goodIn_r _ [10, 11, 12, 13, 14, 15, 16, 17, 8, 18, 19, 20, 21, 22, 23, 24, 25, 26, 34, 35, 36, 37, 38, 39, 40, 41, 42, 43, 44, 45, 46] (by decide +kernel) (by decide +kernel)
set_option maxRecDepth 20000 in
theorem gX1_reset_X0_goBackToPlan_n52 : GoodIn wsX1_reset (wsX0_goBackToPlan) := ggX1_reset_X0_goBackToPlan
theorem dX1_reset_0 : decode cX1_reset 0 = .ok (.iconst 0, 1) := by decide +kernel
theorem dX1_reset_1 : decode cX1_reset 1 = .ok (.istore_n 1, 1) := by decide +kernel
theorem dX1_reset_2 : decode cX1_reset 2 = .ok (.iload_n 1, 1) := by decide +kernel
theorem dX1_reset_3 : decode cX1_reset 3 = .ok (.aload_n 0, 1) := by decide +kernel
theorem dX1_reset_4 : decode cX1_reset 4 = .ok (.getfield 20, 3) := by decide +kernel
theorem dX1_reset_7 : decode cX1_reset 7 = .ok (.if_icmp .ge 18, 3) := by decide +kernel
theorem dX1_reset_10 : decode cX1_reset 10 = .ok (.aload_n 0, 1) := by decide +kernel
theorem dX1_reset_11 : decode cX1_reset 11 = .ok (.getfield 11, 3) := by decide +kernel
theorem dX1_reset_14 : decode cX1_reset 14 = .ok (.iload_n 1, 1) := by decide +kernel
theorem dX1_reset_15 : decode cX1_reset 15 = .ok (.aaload, 1) := by decide +kernel
theorem dX1_reset_16 : decode cX1_reset 16 = .ok (.invokevirtual 52, 3) := by decide +kernel
theorem dX1_reset_19 : decode cX1_reset 19 = .ok (.iinc 1 1, 3) := by decide +kernel
theorem dX1_reset_22 : decode cX1_reset 22 = .ok (.goto (-20), 3) := by decide +kernel
theorem dX1_reset_25 : decode cX1_reset 25 = .ok (.aload_n 0, 1) := by decide +kernel
theorem dX1_reset_26 : decode cX1_reset 26 = .ok (.iconst 0, 1) := by decide +kernel
theorem dX1_reset_27 : decode cX1_reset 27 = .ok (.putfield 55, 3) := by decide +kernel
theorem dX1_reset_30 : decode cX1_reset 30 = .ok (.aload_n 0, 1) := by decide +kernel
theorem dX1_reset_31 : decode cX1_reset 31 = .ok (.iconst 0, 1) := by decide +kernel
theorem dX1_reset_32 : decode cX1_reset 32 = .ok (.putfield 58, 3) := by decide +kernel
theorem dX1_reset_35 : decode cX1_reset 35 = .ok (.aload_n 0, 1) := by decide +kernel
theorem dX1_reset_36 : decode cX1_reset 36 = .ok (.iconst 0, 1) := by decide +kernel
theorem dX1_reset_37 : decode cX1_reset 37 = .ok (.putfield 61, 3) := by decide +kernel
theorem dX1_reset_40 : decode cX1_reset 40 = .ok (.aload_n 0, 1) := by decide +kernel
theorem dX1_reset_41 : decode cX1_reset 41 = .ok (.iconst (-1), 1) := by decide +kernel
theorem dX1_reset_42 : decode cX1_reset 42 = .ok (.putfield 16, 3) := by decide +kernel
theorem dX1_reset_45 : decode cX1_reset 45 = .ok (.return_, 1) := by decide +kernel
set_option maxRecDepth 20000 in
theorem ggX1_clear_X1_reset : GoodIn wsX1_clear wsX1_reset := goodIn_r _ [7, 1, 8, 9, 10, 11, 12, 13, 14, 15, 16, 17, 18, 19, 20, 21, 22, 23, 24, 25, 26, 27, 28, 29, 30, 31, 32, 33, 34, 35, 36, 37, 38, 39, 40, 41, 42, 43, 44, 45, 46, 47, 48, 49, 50, 51, 52] (by decide +kernel) (by decide +kernel)
set_option maxRecDepth 20000 in
theorem gX1_clear_X1_reset : GoodIn wsX1_clear (wsV RX1 35 RX1 yX1_reset wsX1_reset) := goodIn_app (goodIn_of _ (by decide +kernel)) ggX1_clear_X1_reset
theorem dX1_clear_0 : decode cX1_clear 0 = .ok (.aload_n 0, 1) := by decide +kernel
theorem dX1_clear_1 : decode cX1_clear 1 = .ok (.iconst 0, 1) := by decide +kernel
theorem dX1_clear_2 : decode cX1_clear 2 = .ok (.putfield 20, 3) := by decide +kernel
theorem dX1_clear_5 : decode cX1_clear 5 = .ok (.aload_n 0, 1) := by decide +kernel
theorem dX1_clear_6 : decode cX1_clear 6 = .ok (.iconst 0, 1) := by decide +kernel
theorem dX1_clear_7 : decode cX1_clear 7 = .ok (.putfield 49, 3) := by decide +kernel
theorem dX1_clear_10 : decode cX1_clear 10 = .ok (.aload_n 0, 1) := by decide +kernel
theorem dX1_clear_11 : decode cX1_clear 11 = .ok (.invokevirtual 35, 3) := by decide +kernel
theorem dX1_clear_14 : decode cX1_clear 14 = .ok (.return_, 1) := by decide +kernel
set_option maxRecDepth 20000 in
theorem ggX1_begin_X1_isSector : GoodIn wsX1_begin wsX1_isSector := goodIn_r _ [6, 7, 55, 56, 57, 58, 59, 60, 61] (by decide +kernel) (by decide +kernel)
set_option maxRecDepth 20000 in
theorem gX1_begin_X1_isSector : GoodIn wsX1_begin (wsV RX1 38 RX1 yX1_isSector wsX1_isSector) := goodIn_app (goodIn_of _ (by decide +kernel)) ggX1_begin_X1_isSector
set_option maxRecDepth 20000 in
theorem ggX1_begin_X1_isMover : GoodIn wsX1_begin wsX1_isMover := goodIn_r _ [10, 11, 12, 5, 13] (by decide +kernel) (by decide +kernel)
set_option maxRecDepth 20000 in
theorem gX1_begin_X1_isMover : GoodIn wsX1_begin (va_wsS RX1 64 yX1_isMover wsX1_isMover) := goodIn_app (goodIn_of _ (by decide +kernel)) ggX1_begin_X1_isMover
set_option maxRecDepth 20000 in
theorem ggX1_begin_X1_start : GoodIn wsX1_begin wsX1_start := goodIn_r _ [17, 18, 19, 20, 21, 5, 22, 23, 24, 25, 26, 27, 28, 29, 30, 31, 32, 33, 7, 1, 34, 35, 36, 37, 38, 39, 40, 41, 42, 43, 44, 45, 46, 47, 48, 49, 50, 51, 52, 53, 54, 62, 63, 64, 65, 66, 67, 68, 69, 70, 71, 72, 73, 74, 55, 56, 57, 58, 59, 60, 61] (by decide +kernel) (by decide +kernel)
set_option maxRecDepth 20000 in
theorem gX1_begin_X1_start : GoodIn wsX1_begin (wsV RX1 70 RX1 yX1_start wsX1_start) := goodIn_app (goodIn_of _ (by decide +kernel)) ggX1_begin_X1_start
set_option maxRecDepth 20000 in
theorem ggX1_begin_X0_go : GoodIn wsX1_begin wsX0_go := goodIn_r _ [52, 53, 54, 62, 63, 64, 65, 66, 67, 68, 69, 70, 71, 72, 73, 74] (by decide +kernel) (by decide +kernel)
set_option maxRecDepth 20000 in
theorem gX1_begin_X0_go_n77 : GoodIn wsX1_begin (wsX0_go) := ggX1_begin_X0_go
theorem dX1_begin_0 : decode cX1_begin 0 = .ok (.aload_n 0, 1) := by decide +kernel
theorem dX1_begin_1 : decode cX1_begin 1 = .ok (.iload_n 1, 1) := by decide +kernel
theorem dX1_begin_2 : decode cX1_begin 2 = .ok (.invokevirtual 38, 3) := by decide +kernel
theorem dX1_begin_5 : decode cX1_begin 5 = .ok (.ifCond .eq 10, 3) := by decide +kernel
theorem dX1_begin_8 : decode cX1_begin 8 = .ok (.iload_n 2, 1) := by decide +kernel
theorem dX1_begin_9 : decode cX1_begin 9 = .ok (.invokestatic 64, 3) := by decide +kernel
theorem dX1_begin_12 : decode cX1_begin 12 = .ok (.ifCond .ne 5, 3) := by decide +kernel
theorem dX1_begin_15 : decode cX1_begin 15 = .ok (.iconst 0, 1) := by decide +kernel
theorem dX1_begin_16 : decode cX1_begin 16 = .ok (.ireturn, 1) := by decide +kernel
theorem dX1_begin_17 : decode cX1_begin 17 = .ok (.aload_n 0, 1) := by decide +kernel
theorem dX1_begin_18 : decode cX1_begin 18 = .ok (.getfield 11, 3) := by decide +kernel
theorem dX1_begin_21 : decode cX1_begin 21 = .ok (.iload_n 1, 1) := by decide +kernel
theorem dX1_begin_22 : decode cX1_begin 22 = .ok (.aaload, 1) := by decide +kernel
theorem dX1_begin_23 : decode cX1_begin 23 = .ok (.astore_n 3, 1) := by decide +kernel
theorem dX1_begin_24 : decode cX1_begin 24 = .ok (.aload_n 3, 1) := by decide +kernel
theorem dX1_begin_25 : decode cX1_begin 25 = .ok (.getfield 67, 3) := by decide +kernel
theorem dX1_begin_28 : decode cX1_begin 28 = .ok (.iconst (-1), 1) := by decide +kernel
theorem dX1_begin_29 : decode cX1_begin 29 = .ok (.if_icmp .ne 11, 3) := by decide +kernel
theorem dX1_begin_32 : decode cX1_begin 32 = .ok (.aload_n 0, 1) := by decide +kernel
theorem dX1_begin_33 : decode cX1_begin 33 = .ok (.aload_n 3, 1) := by decide +kernel
theorem dX1_begin_34 : decode cX1_begin 34 = .ok (.iload_n 2, 1) := by decide +kernel
theorem dX1_begin_35 : decode cX1_begin 35 = .ok (.invokevirtual 70, 3) := by decide +kernel
theorem dX1_begin_38 : decode cX1_begin 38 = .ok (.iconst 1, 1) := by decide +kernel
theorem dX1_begin_39 : decode cX1_begin 39 = .ok (.ireturn, 1) := by decide +kernel
theorem dX1_begin_40 : decode cX1_begin 40 = .ok (.iload_n 2, 1) := by decide +kernel
theorem dX1_begin_41 : decode cX1_begin 41 = .ok (.ifCond .ne 25, 3) := by decide +kernel
theorem dX1_begin_44 : decode cX1_begin 44 = .ok (.aload_n 3, 1) := by decide +kernel
theorem dX1_begin_45 : decode cX1_begin 45 = .ok (.getfield 67, 3) := by decide +kernel
theorem dX1_begin_48 : decode cX1_begin 48 = .ok (.ifCond .ne 18, 3) := by decide +kernel
theorem dX1_begin_51 : decode cX1_begin 51 = .ok (.aload_n 3, 1) := by decide +kernel
theorem dX1_begin_52 : decode cX1_begin 52 = .ok (.getfield 74, 3) := by decide +kernel
theorem dX1_begin_55 : decode cX1_begin 55 = .ok (.iconst 1, 1) := by decide +kernel
theorem dX1_begin_56 : decode cX1_begin 56 = .ok (.if_icmp .eq 10, 3) := by decide +kernel
theorem dX1_begin_59 : decode cX1_begin 59 = .ok (.aload_n 3, 1) := by decide +kernel
theorem dX1_begin_60 : decode cX1_begin 60 = .ok (.iconst 1, 1) := by decide +kernel
theorem dX1_begin_61 : decode cX1_begin 61 = .ok (.invokevirtual 77, 3) := by decide +kernel
theorem dX1_begin_64 : decode cX1_begin 64 = .ok (.iconst 1, 1) := by decide +kernel
theorem dX1_begin_65 : decode cX1_begin 65 = .ok (.ireturn, 1) := by decide +kernel
theorem dX1_begin_66 : decode cX1_begin 66 = .ok (.iconst 0, 1) := by decide +kernel
theorem dX1_begin_67 : decode cX1_begin 67 = .ok (.ireturn, 1) := by decide +kernel
set_option maxRecDepth 20000 in
theorem ggX1_tag_X1_isWithin : GoodIn wsX1_tag wsX1_isWithin := goodIn_r _ [6] (by decide +kernel) (by decide +kernel)
set_option maxRecDepth 20000 in
theorem gX1_tag_X1_isWithin : GoodIn wsX1_tag (va_wsS RX1 27 yX1_isWithin wsX1_isWithin) := goodIn_app (goodIn_of _ (by decide +kernel)) ggX1_tag_X1_isWithin
set_option maxRecDepth 20000 in
theorem ggX1_tag_X1_isMover : GoodIn wsX1_tag wsX1_isMover := goodIn_r _ [9, 3, 4, 5, 6] (by decide +kernel) (by decide +kernel)
set_option maxRecDepth 20000 in
theorem gX1_tag_X1_isMover : GoodIn wsX1_tag (va_wsS RX1 64 yX1_isMover wsX1_isMover) := goodIn_app (goodIn_of _ (by decide +kernel)) ggX1_tag_X1_isMover
set_option maxRecDepth 20000 in
theorem ggX1_tag_X1_begin : GoodIn wsX1_tag wsX1_begin := goodIn_r _ [13, 2, 14, 15, 16, 5, 17, 1, 7, 8, 9, 3, 4, 6, 18, 19, 20, 21, 22, 23, 24, 25, 26, 27, 28, 29, 30, 31, 32, 33, 34, 35, 36, 37, 38, 39, 40, 41, 42, 43, 44, 45, 46, 47, 48, 49, 50, 51, 52, 53, 54, 55, 56, 57, 58, 59, 60, 61, 62, 63, 64, 65, 66, 67, 68, 69, 70, 71, 72, 73, 74, 75, 76, 77, 78] (by decide +kernel) (by decide +kernel)
set_option maxRecDepth 20000 in
theorem gX1_tag_X1_begin : GoodIn wsX1_tag (wsV RX1 83 RX1 yX1_begin wsX1_begin) := goodIn_app (goodIn_of _ (by decide +kernel)) ggX1_tag_X1_begin
theorem dX1_tag_0 : decode cX1_tag 0 = .ok (.iload_n 1, 1) := by decide +kernel
theorem dX1_tag_1 : decode cX1_tag 1 = .ok (.iconst 0, 1) := by decide +kernel
theorem dX1_tag_2 : decode cX1_tag 2 = .ok (.sipush 255, 3) := by decide +kernel
theorem dX1_tag_5 : decode cX1_tag 5 = .ok (.invokestatic 27, 3) := by decide +kernel
theorem dX1_tag_8 : decode cX1_tag 8 = .ok (.ifCond .eq 10, 3) := by decide +kernel
theorem dX1_tag_11 : decode cX1_tag 11 = .ok (.iload_n 2, 1) := by decide +kernel
theorem dX1_tag_12 : decode cX1_tag 12 = .ok (.invokestatic 64, 3) := by decide +kernel
theorem dX1_tag_15 : decode cX1_tag 15 = .ok (.ifCond .ne 5, 3) := by decide +kernel
theorem dX1_tag_18 : decode cX1_tag 18 = .ok (.iconst (-1), 1) := by decide +kernel
theorem dX1_tag_19 : decode cX1_tag 19 = .ok (.ireturn, 1) := by decide +kernel
theorem dX1_tag_20 : decode cX1_tag 20 = .ok (.iconst 0, 1) := by decide +kernel
theorem dX1_tag_21 : decode cX1_tag 21 = .ok (.istore_n 3, 1) := by decide +kernel
theorem dX1_tag_22 : decode cX1_tag 22 = .ok (.iconst 0, 1) := by decide +kernel
theorem dX1_tag_23 : decode cX1_tag 23 = .ok (.istore 4, 2) := by decide +kernel
theorem dX1_tag_25 : decode cX1_tag 25 = .ok (.iload 4, 2) := by decide +kernel
theorem dX1_tag_27 : decode cX1_tag 27 = .ok (.aload_n 0, 1) := by decide +kernel
theorem dX1_tag_28 : decode cX1_tag 28 = .ok (.getfield 20, 3) := by decide +kernel
theorem dX1_tag_31 : decode cX1_tag 31 = .ok (.if_icmp .ge 36, 3) := by decide +kernel
theorem dX1_tag_34 : decode cX1_tag 34 = .ok (.aload_n 0, 1) := by decide +kernel
theorem dX1_tag_35 : decode cX1_tag 35 = .ok (.getfield 11, 3) := by decide +kernel
theorem dX1_tag_38 : decode cX1_tag 38 = .ok (.iload 4, 2) := by decide +kernel
theorem dX1_tag_40 : decode cX1_tag 40 = .ok (.aaload, 1) := by decide +kernel
theorem dX1_tag_41 : decode cX1_tag 41 = .ok (.getfield 80, 3) := by decide +kernel
theorem dX1_tag_44 : decode cX1_tag 44 = .ok (.iload_n 1, 1) := by decide +kernel
theorem dX1_tag_45 : decode cX1_tag 45 = .ok (.if_icmp .ne 16, 3) := by decide +kernel
theorem dX1_tag_48 : decode cX1_tag 48 = .ok (.aload_n 0, 1) := by decide +kernel
theorem dX1_tag_49 : decode cX1_tag 49 = .ok (.iload 4, 2) := by decide +kernel
theorem dX1_tag_51 : decode cX1_tag 51 = .ok (.iload_n 2, 1) := by decide +kernel
theorem dX1_tag_52 : decode cX1_tag 52 = .ok (.invokevirtual 83, 3) := by decide +kernel
theorem dX1_tag_55 : decode cX1_tag 55 = .ok (.ifCond .eq 6, 3) := by decide +kernel
theorem dX1_tag_58 : decode cX1_tag 58 = .ok (.iinc 3 1, 3) := by decide +kernel
theorem dX1_tag_61 : decode cX1_tag 61 = .ok (.iinc 4 1, 3) := by decide +kernel
theorem dX1_tag_64 : decode cX1_tag 64 = .ok (.goto (-39), 3) := by decide +kernel
theorem dX1_tag_67 : decode cX1_tag 67 = .ok (.iload_n 3, 1) := by decide +kernel
theorem dX1_tag_68 : decode cX1_tag 68 = .ok (.ireturn, 1) := by decide +kernel
set_option maxRecDepth 20000 in
theorem ggX1_enter_X1_isSector : GoodIn wsX1_enter wsX1_isSector := goodIn_r _ [6, 7, 8, 9, 10, 11, 12, 13, 14] (by decide +kernel) (by decide +kernel)
set_option maxRecDepth 20000 in
theorem gX1_enter_X1_isSector : GoodIn wsX1_enter (wsV RX1 38 RX1 yX1_isSector wsX1_isSector) := goodIn_app (goodIn_of _ (by decide +kernel)) ggX1_enter_X1_isSector
theorem dX1_enter_0 : decode cX1_enter 0 = .ok (.iload_n 1, 1) := by decide +kernel
theorem dX1_enter_1 : decode cX1_enter 1 = .ok (.iconst (-1), 1) := by decide +kernel
theorem dX1_enter_2 : decode cX1_enter 2 = .ok (.if_icmp .eq 13, 3) := by decide +kernel
theorem dX1_enter_5 : decode cX1_enter 5 = .ok (.aload_n 0, 1) := by decide +kernel
theorem dX1_enter_6 : decode cX1_enter 6 = .ok (.iload_n 1, 1) := by decide +kernel
theorem dX1_enter_7 : decode cX1_enter 7 = .ok (.invokevirtual 38, 3) := by decide +kernel
theorem dX1_enter_10 : decode cX1_enter 10 = .ok (.ifCond .ne 5, 3) := by decide +kernel
theorem dX1_enter_13 : decode cX1_enter 13 = .ok (.iconst 0, 1) := by decide +kernel
theorem dX1_enter_14 : decode cX1_enter 14 = .ok (.ireturn, 1) := by decide +kernel
theorem dX1_enter_15 : decode cX1_enter 15 = .ok (.aload_n 0, 1) := by decide +kernel
theorem dX1_enter_16 : decode cX1_enter 16 = .ok (.iload_n 1, 1) := by decide +kernel
theorem dX1_enter_17 : decode cX1_enter 17 = .ok (.putfield 16, 3) := by decide +kernel
theorem dX1_enter_20 : decode cX1_enter 20 = .ok (.iconst 1, 1) := by decide +kernel
theorem dX1_enter_21 : decode cX1_enter 21 = .ok (.ireturn, 1) := by decide +kernel
set_option maxRecDepth 20000 in
theorem ggX1_ticks_X1_isWithin : GoodIn wsX1_ticks wsX1_isWithin := goodIn_r _ [5] (by decide +kernel) (by decide +kernel)
set_option maxRecDepth 20000 in
theorem gX1_ticks_X1_isWithin : GoodIn wsX1_ticks (va_wsS RX1 27 yX1_isWithin wsX1_isWithin) := goodIn_app (goodIn_of _ (by decide +kernel)) ggX1_ticks_X1_isWithin
set_option maxRecDepth 20000 in
theorem ggX1_ticks_X1_passOneTick : GoodIn wsX1_ticks wsX1_passOneTick := goodIn_r _ [9, 1, 10, 11, 12, 13, 14, 15, 16, 4, 17, 18, 19, 20, 21, 22, 23, 24, 25, 26, 27, 28, 29, 30, 31, 32, 33, 34, 35, 36, 37, 38, 39, 40, 41, 42, 43, 44, 45, 46, 47, 48, 49, 50, 51, 52, 53, 54, 55, 56, 57, 58, 59, 60, 61, 62, 63, 64, 65, 66, 67, 68, 69, 70, 71, 72, 73, 74, 75, 76, 77, 78, 79, 80, 81, 82, 83] (by decide +kernel) (by decide +kernel)
set_option maxRecDepth 20000 in
theorem gX1_ticks_X1_passOneTick : GoodIn wsX1_ticks (wsV RX1 86 RX1 yX1_passOneTick wsX1_passOneTick) := goodIn_app (goodIn_of _ (by decide +kernel)) ggX1_ticks_X1_passOneTick
theorem dX1_ticks_0 : decode cX1_ticks 0 = .ok (.iload_n 1, 1) := by decide +kernel
theorem dX1_ticks_1 : decode cX1_ticks 1 = .ok (.iconst 0, 1) := by decide +kernel
theorem dX1_ticks_2 : decode cX1_ticks 2 = .ok (.sipush 1000, 3) := by decide +kernel
theorem dX1_ticks_5 : decode cX1_ticks 5 = .ok (.invokestatic 27, 3) := by decide +kernel
theorem dX1_ticks_8 : decode cX1_ticks 8 = .ok (.ifCond .ne 5, 3) := by decide +kernel
theorem dX1_ticks_11 : decode cX1_ticks 11 = .ok (.iconst (-1), 1) := by decide +kernel
theorem dX1_ticks_12 : decode cX1_ticks 12 = .ok (.ireturn, 1) := by decide +kernel
theorem dX1_ticks_13 : decode cX1_ticks 13 = .ok (.iconst 0, 1) := by decide +kernel
theorem dX1_ticks_14 : decode cX1_ticks 14 = .ok (.istore_n 2, 1) := by decide +kernel
theorem dX1_ticks_15 : decode cX1_ticks 15 = .ok (.iload_n 2, 1) := by decide +kernel
theorem dX1_ticks_16 : decode cX1_ticks 16 = .ok (.iload_n 1, 1) := by decide +kernel
theorem dX1_ticks_17 : decode cX1_ticks 17 = .ok (.if_icmp .ge 13, 3) := by decide +kernel
theorem dX1_ticks_20 : decode cX1_ticks 20 = .ok (.aload_n 0, 1) := by decide +kernel
theorem dX1_ticks_21 : decode cX1_ticks 21 = .ok (.invokevirtual 86, 3) := by decide +kernel
theorem dX1_ticks_24 : decode cX1_ticks 24 = .ok (.iinc 2 1, 3) := by decide +kernel
theorem dX1_ticks_27 : decode cX1_ticks 27 = .ok (.goto (-12), 3) := by decide +kernel
theorem dX1_ticks_30 : decode cX1_ticks 30 = .ok (.aload_n 0, 1) := by decide +kernel
theorem dX1_ticks_31 : decode cX1_ticks 31 = .ok (.getfield 55, 3) := by decide +kernel
theorem dX1_ticks_34 : decode cX1_ticks 34 = .ok (.ireturn, 1) := by decide +kernel
set_option maxRecDepth 20000 in
theorem ggX1_of_X1_isSector : GoodIn wsX1_of wsX1_isSector := goodIn_r _ [7, 8, 42, 43, 44, 45, 46, 47, 48] (by decide +kernel) (by decide +kernel)
set_option maxRecDepth 20000 in
theorem gX1_of_X1_isSector : GoodIn wsX1_of (wsV RX1 38 RX1 yX1_isSector wsX1_isSector) := goodIn_app (goodIn_of _ (by decide +kernel)) ggX1_of_X1_isSector
set_option maxRecDepth 20000 in
theorem ggX1_of_X1_lightNow : GoodIn wsX1_of wsX1_lightNow := goodIn_r _ [12, 13, 14, 15, 16, 17, 18, 49, 50, 51, 52, 53, 54, 55, 56, 57, 58, 59, 60, 61, 42, 43, 44, 45, 46, 47, 48] (by decide +kernel) (by decide +kernel)
set_option maxRecDepth 20000 in
theorem gX1_of_X1_lightNow : GoodIn wsX1_of (wsV RX1 96 RX1 yX1_lightNow wsX1_lightNow) := goodIn_app (goodIn_of _ (by decide +kernel)) ggX1_of_X1_lightNow
set_option maxRecDepth 20000 in
theorem ggX1_of_X1_lowFloor : GoodIn wsX1_of wsX1_lowFloor := goodIn_r _ [22, 8, 2, 23, 24, 17, 25, 26, 27, 28, 29, 30, 49, 50, 51, 52, 53, 54, 55, 56, 57, 58, 59, 60, 61, 42, 43, 44, 45, 46, 47, 48] (by decide +kernel) (by decide +kernel)
set_option maxRecDepth 20000 in
theorem gX1_of_X1_lowFloor : GoodIn wsX1_of (wsV RX1 103 RX1 yX1_lowFloor wsX1_lowFloor) := goodIn_app (goodIn_of _ (by decide +kernel)) ggX1_of_X1_lowFloor
set_option maxRecDepth 20000 in
theorem ggX1_of_X1_highFloor : GoodIn wsX1_of wsX1_highFloor := goodIn_r _ [34, 8, 2, 15, 16, 17, 18, 26, 27, 28, 29, 30, 49, 50, 51, 52, 53, 54, 55, 56, 57, 58, 59, 60, 61, 42, 43, 44, 45, 46, 47, 48] (by decide +kernel) (by decide +kernel)
set_option maxRecDepth 20000 in
theorem gX1_of_X1_highFloor : GoodIn wsX1_of (wsV RX1 106 RX1 yX1_highFloor wsX1_highFloor) := goodIn_app (goodIn_of _ (by decide +kernel)) ggX1_of_X1_highFloor
set_option maxRecDepth 20000 in
theorem ggX1_of_X1_lowCeiling : GoodIn wsX1_of wsX1_lowCeiling := goodIn_r _ [38, 8, 2, 23, 24, 17, 25, 39, 27, 40, 41, 30, 26, 28, 29, 49, 50, 51, 52, 53, 54, 55, 56, 57, 58, 59, 60, 61, 42, 43, 44, 45, 46, 47, 48] (by decide +kernel) (by decide +kernel)
set_option maxRecDepth 20000 in
theorem gX1_of_X1_lowCeiling : GoodIn wsX1_of (wsV RX1 109 RX1 yX1_lowCeiling wsX1_lowCeiling) := goodIn_app (goodIn_of _ (by decide +kernel)) ggX1_of_X1_lowCeiling
theorem dX1_of_0 : decode cX1_of 0 = .ok (.aload_n 0, 1) := by decide +kernel
theorem dX1_of_1 : decode cX1_of 1 = .ok (.iload_n 1, 1) := by decide +kernel
theorem dX1_of_2 : decode cX1_of 2 = .ok (.invokevirtual 38, 3) := by decide +kernel
theorem dX1_of_5 : decode cX1_of 5 = .ok (.ifCond .ne 6, 3) := by decide +kernel
theorem dX1_of_8 : decode cX1_of 8 = .ok (.ldc 89, 2) := by decide +kernel
theorem dX1_of_10 : decode cX1_of 10 = .ok (.ireturn, 1) := by decide +kernel
theorem dX1_of_11 : decode cX1_of 11 = .ok (.aload_n 0, 1) := by decide +kernel
theorem dX1_of_12 : decode cX1_of 12 = .ok (.getfield 11, 3) := by decide +kernel
theorem dX1_of_15 : decode cX1_of 15 = .ok (.iload_n 1, 1) := by decide +kernel
theorem dX1_of_16 : decode cX1_of 16 = .ok (.aaload, 1) := by decide +kernel
theorem dX1_of_17 : decode cX1_of 17 = .ok (.astore_n 3, 1) := by decide +kernel
theorem dX1_of_18 : decode cX1_of 18 = .ok (.iload_n 2, 1) := by decide +kernel
theorem dX1_of_19 : decode cX1_of 19 = .ok (.tableswitch 107 0 9 #[53, 58, 63, 69, 74, 79, 84, 90, 96, 102], 53) := by decide +kernel
theorem dX1_of_72 : decode cX1_of 72 = .ok (.aload_n 3, 1) := by decide +kernel
theorem dX1_of_73 : decode cX1_of 73 = .ok (.getfield 90, 3) := by decide +kernel
theorem dX1_of_76 : decode cX1_of 76 = .ok (.ireturn, 1) := by decide +kernel
theorem dX1_of_77 : decode cX1_of 77 = .ok (.aload_n 3, 1) := by decide +kernel
theorem dX1_of_78 : decode cX1_of 78 = .ok (.getfield 93, 3) := by decide +kernel
theorem dX1_of_81 : decode cX1_of 81 = .ok (.ireturn, 1) := by decide +kernel
theorem dX1_of_82 : decode cX1_of 82 = .ok (.aload_n 0, 1) := by decide +kernel
theorem dX1_of_83 : decode cX1_of 83 = .ok (.aload_n 3, 1) := by decide +kernel
theorem dX1_of_84 : decode cX1_of 84 = .ok (.invokevirtual 96, 3) := by decide +kernel
theorem dX1_of_87 : decode cX1_of 87 = .ok (.ireturn, 1) := by decide +kernel
theorem dX1_of_88 : decode cX1_of 88 = .ok (.aload_n 3, 1) := by decide +kernel
theorem dX1_of_89 : decode cX1_of 89 = .ok (.getfield 67, 3) := by decide +kernel
theorem dX1_of_92 : decode cX1_of 92 = .ok (.ireturn, 1) := by decide +kernel
theorem dX1_of_93 : decode cX1_of 93 = .ok (.aload_n 3, 1) := by decide +kernel
theorem dX1_of_94 : decode cX1_of 94 = .ok (.getfield 74, 3) := by decide +kernel
theorem dX1_of_97 : decode cX1_of 97 = .ok (.ireturn, 1) := by decide +kernel
theorem dX1_of_98 : decode cX1_of 98 = .ok (.aload_n 3, 1) := by decide +kernel
theorem dX1_of_99 : decode cX1_of 99 = .ok (.getfield 100, 3) := by decide +kernel
theorem dX1_of_102 : decode cX1_of 102 = .ok (.ireturn, 1) := by decide +kernel
theorem dX1_of_103 : decode cX1_of 103 = .ok (.aload_n 0, 1) := by decide +kernel
theorem dX1_of_104 : decode cX1_of 104 = .ok (.aload_n 3, 1) := by decide +kernel
theorem dX1_of_105 : decode cX1_of 105 = .ok (.invokevirtual 103, 3) := by decide +kernel
theorem dX1_of_108 : decode cX1_of 108 = .ok (.ireturn, 1) := by decide +kernel
theorem dX1_of_109 : decode cX1_of 109 = .ok (.aload_n 0, 1) := by decide +kernel
theorem dX1_of_110 : decode cX1_of 110 = .ok (.aload_n 3, 1) := by decide +kernel
theorem dX1_of_111 : decode cX1_of 111 = .ok (.invokevirtual 106, 3) := by decide +kernel
theorem dX1_of_114 : decode cX1_of 114 = .ok (.ireturn, 1) := by decide +kernel
theorem dX1_of_115 : decode cX1_of 115 = .ok (.aload_n 0, 1) := by decide +kernel
theorem dX1_of_116 : decode cX1_of 116 = .ok (.aload_n 3, 1) := by decide +kernel
theorem dX1_of_117 : decode cX1_of 117 = .ok (.invokevirtual 109, 3) := by decide +kernel
theorem dX1_of_120 : decode cX1_of 120 = .ok (.ireturn, 1) := by decide +kernel
theorem dX1_of_121 : decode cX1_of 121 = .ok (.aload_n 3, 1) := by decide +kernel
theorem dX1_of_122 : decode cX1_of 122 = .ok (.getfield 112, 3) := by decide +kernel
theorem dX1_of_125 : decode cX1_of 125 = .ok (.ireturn, 1) := by decide +kernel
theorem dX1_of_126 : decode cX1_of 126 = .ok (.ldc 89, 2) := by decide +kernel
theorem dX1_of_128 : decode cX1_of 128 = .ok (.ireturn, 1) := by decide +kernel
theorem dX1_isWithin_0 : decode cX1_isWithin 0 = .ok (.iload_n 0, 1) := by decide +kernel
theorem dX1_isWithin_1 : decode cX1_isWithin 1 = .ok (.iload_n 1, 1) := by decide +kernel
theorem dX1_isWithin_2 : decode cX1_isWithin 2 = .ok (.if_icmp .lt 12, 3) := by decide +kernel
theorem dX1_isWithin_5 : decode cX1_isWithin 5 = .ok (.iload_n 0, 1) := by decide +kernel
theorem dX1_isWithin_6 : decode cX1_isWithin 6 = .ok (.iload_n 2, 1) := by decide +kernel
theorem dX1_isWithin_7 : decode cX1_isWithin 7 = .ok (.if_icmp .gt 7, 3) := by decide +kernel
theorem dX1_isWithin_10 : decode cX1_isWithin 10 = .ok (.iconst 1, 1) := by decide +kernel
theorem dX1_isWithin_11 : decode cX1_isWithin 11 = .ok (.goto 4, 3) := by decide +kernel
theorem dX1_isWithin_14 : decode cX1_isWithin 14 = .ok (.iconst 0, 1) := by decide +kernel
theorem dX1_isWithin_15 : decode cX1_isWithin 15 = .ok (.ireturn, 1) := by decide +kernel
theorem dX1_isShape_0 : decode cX1_isShape 0 = .ok (.iload_n 0, 1) := by decide +kernel
theorem dX1_isShape_1 : decode cX1_isShape 1 = .ok (.sipush (-1024), 3) := by decide +kernel
theorem dX1_isShape_4 : decode cX1_isShape 4 = .ok (.if_icmp .lt 19, 3) := by decide +kernel
theorem dX1_isShape_7 : decode cX1_isShape 7 = .ok (.iload_n 0, 1) := by decide +kernel
theorem dX1_isShape_8 : decode cX1_isShape 8 = .ok (.iload_n 1, 1) := by decide +kernel
theorem dX1_isShape_9 : decode cX1_isShape 9 = .ok (.if_icmp .ge 14, 3) := by decide +kernel
theorem dX1_isShape_12 : decode cX1_isShape 12 = .ok (.iload_n 1, 1) := by decide +kernel
theorem dX1_isShape_13 : decode cX1_isShape 13 = .ok (.sipush 1024, 3) := by decide +kernel
theorem dX1_isShape_16 : decode cX1_isShape 16 = .ok (.if_icmp .gt 7, 3) := by decide +kernel
theorem dX1_isShape_19 : decode cX1_isShape 19 = .ok (.iconst 1, 1) := by decide +kernel
theorem dX1_isShape_20 : decode cX1_isShape 20 = .ok (.goto 4, 3) := by decide +kernel
theorem dX1_isShape_23 : decode cX1_isShape 23 = .ok (.iconst 0, 1) := by decide +kernel
theorem dX1_isShape_24 : decode cX1_isShape 24 = .ok (.ireturn, 1) := by decide +kernel
set_option maxRecDepth 20000 in
theorem ggX1_isMover_X1_isWithin : GoodIn wsX1_isMover wsX1_isWithin := goodIn_r _ [4] (by decide +kernel) (by decide +kernel)
set_option maxRecDepth 20000 in
theorem gX1_isMover_X1_isWithin : GoodIn wsX1_isMover (va_wsS RX1 27 yX1_isWithin wsX1_isWithin) := goodIn_app (goodIn_of _ (by decide +kernel)) ggX1_isMover_X1_isWithin
theorem dX1_isMover_0 : decode cX1_isMover 0 = .ok (.iload_n 0, 1) := by decide +kernel
theorem dX1_isMover_1 : decode cX1_isMover 1 = .ok (.iconst 0, 1) := by decide +kernel
theorem dX1_isMover_2 : decode cX1_isMover 2 = .ok (.iconst 2, 1) := by decide +kernel
theorem dX1_isMover_3 : decode cX1_isMover 3 = .ok (.invokestatic 27, 3) := by decide +kernel
theorem dX1_isMover_6 : decode cX1_isMover 6 = .ok (.ireturn, 1) := by decide +kernel
theorem dX1_isSector_0 : decode cX1_isSector 0 = .ok (.iload_n 1, 1) := by decide +kernel
theorem dX1_isSector_1 : decode cX1_isSector 1 = .ok (.ifCond .lt 15, 3) := by decide +kernel
theorem dX1_isSector_4 : decode cX1_isSector 4 = .ok (.iload_n 1, 1) := by decide +kernel
theorem dX1_isSector_5 : decode cX1_isSector 5 = .ok (.aload_n 0, 1) := by decide +kernel
theorem dX1_isSector_6 : decode cX1_isSector 6 = .ok (.getfield 20, 3) := by decide +kernel
theorem dX1_isSector_9 : decode cX1_isSector 9 = .ok (.if_icmp .ge 7, 3) := by decide +kernel
theorem dX1_isSector_12 : decode cX1_isSector 12 = .ok (.iconst 1, 1) := by decide +kernel
theorem dX1_isSector_13 : decode cX1_isSector 13 = .ok (.goto 4, 3) := by decide +kernel
theorem dX1_isSector_16 : decode cX1_isSector 16 = .ok (.iconst 0, 1) := by decide +kernel
theorem dX1_isSector_17 : decode cX1_isSector 17 = .ok (.ireturn, 1) := by decide +kernel
set_option maxRecDepth 20000 in
theorem ggX1_lowFloor_X0_hasNeighbour : GoodIn wsX1_lowFloor wsX0_hasNeighbour := goodIn_r _ [10, 11, 12, 13, 14, 15, 16, 17, 18, 19, 20, 21, 22, 23, 24] (by decide +kernel) (by decide +kernel)
set_option maxRecDepth 20000 in
theorem gX1_lowFloor_X0_hasNeighbour_n42 : GoodIn wsX1_lowFloor (wsX0_hasNeighbour) := ggX1_lowFloor_X0_hasNeighbour
theorem dX1_lowFloor_0 : decode cX1_lowFloor 0 = .ok (.aload_n 1, 1) := by decide +kernel
theorem dX1_lowFloor_1 : decode cX1_lowFloor 1 = .ok (.getfield 90, 3) := by decide +kernel
theorem dX1_lowFloor_4 : decode cX1_lowFloor 4 = .ok (.istore_n 2, 1) := by decide +kernel
theorem dX1_lowFloor_5 : decode cX1_lowFloor 5 = .ok (.iconst 0, 1) := by decide +kernel
theorem dX1_lowFloor_6 : decode cX1_lowFloor 6 = .ok (.istore_n 3, 1) := by decide +kernel
theorem dX1_lowFloor_7 : decode cX1_lowFloor 7 = .ok (.iload_n 3, 1) := by decide +kernel
theorem dX1_lowFloor_8 : decode cX1_lowFloor 8 = .ok (.aload_n 0, 1) := by decide +kernel
theorem dX1_lowFloor_9 : decode cX1_lowFloor 9 = .ok (.getfield 20, 3) := by decide +kernel
theorem dX1_lowFloor_12 : decode cX1_lowFloor 12 = .ok (.if_icmp .ge 31, 3) := by decide +kernel
theorem dX1_lowFloor_15 : decode cX1_lowFloor 15 = .ok (.aload_n 1, 1) := by decide +kernel
theorem dX1_lowFloor_16 : decode cX1_lowFloor 16 = .ok (.iload_n 3, 1) := by decide +kernel
theorem dX1_lowFloor_17 : decode cX1_lowFloor 17 = .ok (.invokevirtual 42, 3) := by decide +kernel
theorem dX1_lowFloor_20 : decode cX1_lowFloor 20 = .ok (.ifCond .eq 17, 3) := by decide +kernel
theorem dX1_lowFloor_23 : decode cX1_lowFloor 23 = .ok (.iload_n 2, 1) := by decide +kernel
theorem dX1_lowFloor_24 : decode cX1_lowFloor 24 = .ok (.aload_n 0, 1) := by decide +kernel
theorem dX1_lowFloor_25 : decode cX1_lowFloor 25 = .ok (.getfield 11, 3) := by decide +kernel
theorem dX1_lowFloor_28 : decode cX1_lowFloor 28 = .ok (.iload_n 3, 1) := by decide +kernel
theorem dX1_lowFloor_29 : decode cX1_lowFloor 29 = .ok (.aaload, 1) := by decide +kernel
theorem dX1_lowFloor_30 : decode cX1_lowFloor 30 = .ok (.getfield 90, 3) := by decide +kernel
theorem dX1_lowFloor_33 : decode cX1_lowFloor 33 = .ok (.invokestatic 118, 3) := by decide +kernel
theorem dX1_lowFloor_36 : decode cX1_lowFloor 36 = .ok (.istore_n 2, 1) := by decide +kernel
theorem dX1_lowFloor_37 : decode cX1_lowFloor 37 = .ok (.iinc 3 1, 3) := by decide +kernel
theorem dX1_lowFloor_40 : decode cX1_lowFloor 40 = .ok (.goto (-33), 3) := by decide +kernel
theorem dX1_lowFloor_43 : decode cX1_lowFloor 43 = .ok (.iload_n 2, 1) := by decide +kernel
theorem dX1_lowFloor_44 : decode cX1_lowFloor 44 = .ok (.ireturn, 1) := by decide +kernel
set_option maxRecDepth 20000 in
theorem ggX1_highFloor_X0_hasNeighbour : GoodIn wsX1_highFloor wsX0_hasNeighbour := goodIn_r _ [10, 11, 12, 13, 14, 15, 16, 17, 18, 19, 20, 21, 22, 23, 24] (by decide +kernel) (by decide +kernel)
set_option maxRecDepth 20000 in
theorem gX1_highFloor_X0_hasNeighbour_n42 : GoodIn wsX1_highFloor (wsX0_hasNeighbour) := ggX1_highFloor_X0_hasNeighbour
theorem dX1_highFloor_0 : decode cX1_highFloor 0 = .ok (.aload_n 1, 1) := by decide +kernel
theorem dX1_highFloor_1 : decode cX1_highFloor 1 = .ok (.getfield 90, 3) := by decide +kernel
theorem dX1_highFloor_4 : decode cX1_highFloor 4 = .ok (.istore_n 2, 1) := by decide +kernel
theorem dX1_highFloor_5 : decode cX1_highFloor 5 = .ok (.iconst 0, 1) := by decide +kernel
theorem dX1_highFloor_6 : decode cX1_highFloor 6 = .ok (.istore_n 3, 1) := by decide +kernel
theorem dX1_highFloor_7 : decode cX1_highFloor 7 = .ok (.iload_n 3, 1) := by decide +kernel
theorem dX1_highFloor_8 : decode cX1_highFloor 8 = .ok (.aload_n 0, 1) := by decide +kernel
theorem dX1_highFloor_9 : decode cX1_highFloor 9 = .ok (.getfield 20, 3) := by decide +kernel
theorem dX1_highFloor_12 : decode cX1_highFloor 12 = .ok (.if_icmp .ge 31, 3) := by decide +kernel
theorem dX1_highFloor_15 : decode cX1_highFloor 15 = .ok (.aload_n 1, 1) := by decide +kernel
theorem dX1_highFloor_16 : decode cX1_highFloor 16 = .ok (.iload_n 3, 1) := by decide +kernel
theorem dX1_highFloor_17 : decode cX1_highFloor 17 = .ok (.invokevirtual 42, 3) := by decide +kernel
theorem dX1_highFloor_20 : decode cX1_highFloor 20 = .ok (.ifCond .eq 17, 3) := by decide +kernel
theorem dX1_highFloor_23 : decode cX1_highFloor 23 = .ok (.iload_n 2, 1) := by decide +kernel
theorem dX1_highFloor_24 : decode cX1_highFloor 24 = .ok (.aload_n 0, 1) := by decide +kernel
theorem dX1_highFloor_25 : decode cX1_highFloor 25 = .ok (.getfield 11, 3) := by decide +kernel
theorem dX1_highFloor_28 : decode cX1_highFloor 28 = .ok (.iload_n 3, 1) := by decide +kernel
theorem dX1_highFloor_29 : decode cX1_highFloor 29 = .ok (.aaload, 1) := by decide +kernel
theorem dX1_highFloor_30 : decode cX1_highFloor 30 = .ok (.getfield 90, 3) := by decide +kernel
theorem dX1_highFloor_33 : decode cX1_highFloor 33 = .ok (.invokestatic 124, 3) := by decide +kernel
theorem dX1_highFloor_36 : decode cX1_highFloor 36 = .ok (.istore_n 2, 1) := by decide +kernel
theorem dX1_highFloor_37 : decode cX1_highFloor 37 = .ok (.iinc 3 1, 3) := by decide +kernel
theorem dX1_highFloor_40 : decode cX1_highFloor 40 = .ok (.goto (-33), 3) := by decide +kernel
theorem dX1_highFloor_43 : decode cX1_highFloor 43 = .ok (.iload_n 2, 1) := by decide +kernel
theorem dX1_highFloor_44 : decode cX1_highFloor 44 = .ok (.ireturn, 1) := by decide +kernel
set_option maxRecDepth 20000 in
theorem ggX1_lowCeiling_X0_hasNeighbours : GoodIn wsX1_lowCeiling wsX0_hasNeighbours := goodIn_r _ [10, 11, 15, 16, 17, 18, 19, 20, 21, 22, 23, 24, 25, 26, 27] (by decide +kernel) (by decide +kernel)
set_option maxRecDepth 20000 in
theorem gX1_lowCeiling_X0_hasNeighbours_n127 : GoodIn wsX1_lowCeiling (wsX0_hasNeighbours) := ggX1_lowCeiling_X0_hasNeighbours
set_option maxRecDepth 20000 in
theorem ggX1_lowCeiling_X0_hasNeighbour : GoodIn wsX1_lowCeiling wsX0_hasNeighbour := goodIn_r _ [14, 11, 15, 16, 17, 18, 19, 20, 21, 22, 23, 24, 25, 26, 27] (by decide +kernel) (by decide +kernel)
set_option maxRecDepth 20000 in
theorem gX1_lowCeiling_X0_hasNeighbour_n42 : GoodIn wsX1_lowCeiling (wsX0_hasNeighbour) := ggX1_lowCeiling_X0_hasNeighbour
theorem dX1_lowCeiling_0 : decode cX1_lowCeiling 0 = .ok (.aload_n 1, 1) := by decide +kernel
theorem dX1_lowCeiling_1 : decode cX1_lowCeiling 1 = .ok (.invokevirtual 127, 3) := by decide +kernel
theorem dX1_lowCeiling_4 : decode cX1_lowCeiling 4 = .ok (.ifCond .ne 8, 3) := by decide +kernel
theorem dX1_lowCeiling_7 : decode cX1_lowCeiling 7 = .ok (.aload_n 1, 1) := by decide +kernel
theorem dX1_lowCeiling_8 : decode cX1_lowCeiling 8 = .ok (.getfield 93, 3) := by decide +kernel
theorem dX1_lowCeiling_11 : decode cX1_lowCeiling 11 = .ok (.ireturn, 1) := by decide +kernel
theorem dX1_lowCeiling_12 : decode cX1_lowCeiling 12 = .ok (.sipush 1024, 3) := by decide +kernel
theorem dX1_lowCeiling_15 : decode cX1_lowCeiling 15 = .ok (.istore_n 2, 1) := by decide +kernel
theorem dX1_lowCeiling_16 : decode cX1_lowCeiling 16 = .ok (.iconst 0, 1) := by decide +kernel
theorem dX1_lowCeiling_17 : decode cX1_lowCeiling 17 = .ok (.istore_n 3, 1) := by decide +kernel
theorem dX1_lowCeiling_18 : decode cX1_lowCeiling 18 = .ok (.iload_n 3, 1) := by decide +kernel
theorem dX1_lowCeiling_19 : decode cX1_lowCeiling 19 = .ok (.aload_n 0, 1) := by decide +kernel
theorem dX1_lowCeiling_20 : decode cX1_lowCeiling 20 = .ok (.getfield 20, 3) := by decide +kernel
theorem dX1_lowCeiling_23 : decode cX1_lowCeiling 23 = .ok (.if_icmp .ge 31, 3) := by decide +kernel
theorem dX1_lowCeiling_26 : decode cX1_lowCeiling 26 = .ok (.aload_n 1, 1) := by decide +kernel
theorem dX1_lowCeiling_27 : decode cX1_lowCeiling 27 = .ok (.iload_n 3, 1) := by decide +kernel
theorem dX1_lowCeiling_28 : decode cX1_lowCeiling 28 = .ok (.invokevirtual 42, 3) := by decide +kernel
theorem dX1_lowCeiling_31 : decode cX1_lowCeiling 31 = .ok (.ifCond .eq 17, 3) := by decide +kernel
theorem dX1_lowCeiling_34 : decode cX1_lowCeiling 34 = .ok (.iload_n 2, 1) := by decide +kernel
theorem dX1_lowCeiling_35 : decode cX1_lowCeiling 35 = .ok (.aload_n 0, 1) := by decide +kernel
theorem dX1_lowCeiling_36 : decode cX1_lowCeiling 36 = .ok (.getfield 11, 3) := by decide +kernel
theorem dX1_lowCeiling_39 : decode cX1_lowCeiling 39 = .ok (.iload_n 3, 1) := by decide +kernel
theorem dX1_lowCeiling_40 : decode cX1_lowCeiling 40 = .ok (.aaload, 1) := by decide +kernel
theorem dX1_lowCeiling_41 : decode cX1_lowCeiling 41 = .ok (.getfield 93, 3) := by decide +kernel
theorem dX1_lowCeiling_44 : decode cX1_lowCeiling 44 = .ok (.invokestatic 118, 3) := by decide +kernel
theorem dX1_lowCeiling_47 : decode cX1_lowCeiling 47 = .ok (.istore_n 2, 1) := by decide +kernel
theorem dX1_lowCeiling_48 : decode cX1_lowCeiling 48 = .ok (.iinc 3 1, 3) := by decide +kernel
theorem dX1_lowCeiling_51 : decode cX1_lowCeiling 51 = .ok (.goto (-33), 3) := by decide +kernel
theorem dX1_lowCeiling_54 : decode cX1_lowCeiling 54 = .ok (.iload_n 2, 1) := by decide +kernel
theorem dX1_lowCeiling_55 : decode cX1_lowCeiling 55 = .ok (.ireturn, 1) := by decide +kernel
theorem dX1_lightNow_0 : decode cX1_lightNow 0 = .ok (.aload_n 1, 1) := by decide +kernel
theorem dX1_lightNow_1 : decode cX1_lightNow 1 = .ok (.getfield 131, 3) := by decide +kernel
theorem dX1_lightNow_4 : decode cX1_lightNow 4 = .ok (.tableswitch 88 1 3 #[28, 53, 74], 28) := by decide +kernel
theorem dX1_lightNow_32 : decode cX1_lightNow 32 = .ok (.aload_n 0, 1) := by decide +kernel
theorem dX1_lightNow_33 : decode cX1_lightNow 33 = .ok (.getfield 55, 3) := by decide +kernel
theorem dX1_lightNow_36 : decode cX1_lightNow 36 = .ok (.bipush 16, 2) := by decide +kernel
theorem dX1_lightNow_38 : decode cX1_lightNow 38 = .ok (.irem, 1) := by decide +kernel
theorem dX1_lightNow_39 : decode cX1_lightNow 39 = .ok (.iconst 4, 1) := by decide +kernel
theorem dX1_lightNow_40 : decode cX1_lightNow 40 = .ok (.if_icmp .ge 10, 3) := by decide +kernel
theorem dX1_lightNow_43 : decode cX1_lightNow 43 = .ok (.aload_n 1, 1) := by decide +kernel
theorem dX1_lightNow_44 : decode cX1_lightNow 44 = .ok (.getfield 134, 3) := by decide +kernel
theorem dX1_lightNow_47 : decode cX1_lightNow 47 = .ok (.goto 9, 3) := by decide +kernel
theorem dX1_lightNow_50 : decode cX1_lightNow 50 = .ok (.aload_n 1, 1) := by decide +kernel
theorem dX1_lightNow_51 : decode cX1_lightNow 51 = .ok (.getfield 134, 3) := by decide +kernel
theorem dX1_lightNow_54 : decode cX1_lightNow 54 = .ok (.iconst 2, 1) := by decide +kernel
theorem dX1_lightNow_55 : decode cX1_lightNow 55 = .ok (.idiv, 1) := by decide +kernel
theorem dX1_lightNow_56 : decode cX1_lightNow 56 = .ok (.ireturn, 1) := by decide +kernel
theorem dX1_lightNow_57 : decode cX1_lightNow 57 = .ok (.aload_n 0, 1) := by decide +kernel
theorem dX1_lightNow_58 : decode cX1_lightNow 58 = .ok (.getfield 55, 3) := by decide +kernel
theorem dX1_lightNow_61 : decode cX1_lightNow 61 = .ok (.bipush 32, 2) := by decide +kernel
theorem dX1_lightNow_63 : decode cX1_lightNow 63 = .ok (.idiv, 1) := by decide +kernel
theorem dX1_lightNow_64 : decode cX1_lightNow 64 = .ok (.iconst 2, 1) := by decide +kernel
theorem dX1_lightNow_65 : decode cX1_lightNow 65 = .ok (.irem, 1) := by decide +kernel
theorem dX1_lightNow_66 : decode cX1_lightNow 66 = .ok (.ifCond .ne 10, 3) := by decide +kernel
theorem dX1_lightNow_69 : decode cX1_lightNow 69 = .ok (.aload_n 1, 1) := by decide +kernel
theorem dX1_lightNow_70 : decode cX1_lightNow 70 = .ok (.getfield 134, 3) := by decide +kernel
theorem dX1_lightNow_73 : decode cX1_lightNow 73 = .ok (.goto 4, 3) := by decide +kernel
theorem dX1_lightNow_76 : decode cX1_lightNow 76 = .ok (.iconst 0, 1) := by decide +kernel
theorem dX1_lightNow_77 : decode cX1_lightNow 77 = .ok (.ireturn, 1) := by decide +kernel
theorem dX1_lightNow_78 : decode cX1_lightNow 78 = .ok (.iconst 0, 1) := by decide +kernel
theorem dX1_lightNow_79 : decode cX1_lightNow 79 = .ok (.aload_n 1, 1) := by decide +kernel
theorem dX1_lightNow_80 : decode cX1_lightNow 80 = .ok (.getfield 134, 3) := by decide +kernel
theorem dX1_lightNow_83 : decode cX1_lightNow 83 = .ok (.aload_n 0, 1) := by decide +kernel
theorem dX1_lightNow_84 : decode cX1_lightNow 84 = .ok (.getfield 58, 3) := by decide +kernel
theorem dX1_lightNow_87 : decode cX1_lightNow 87 = .ok (.isub, 1) := by decide +kernel
theorem dX1_lightNow_88 : decode cX1_lightNow 88 = .ok (.invokestatic 124, 3) := by decide +kernel
theorem dX1_lightNow_91 : decode cX1_lightNow 91 = .ok (.ireturn, 1) := by decide +kernel
theorem dX1_lightNow_92 : decode cX1_lightNow 92 = .ok (.aload_n 1, 1) := by decide +kernel
theorem dX1_lightNow_93 : decode cX1_lightNow 93 = .ok (.getfield 134, 3) := by decide +kernel
theorem dX1_lightNow_96 : decode cX1_lightNow 96 = .ok (.ireturn, 1) := by decide +kernel
set_option maxRecDepth 20000 in
theorem ggX1_start_X1_endOfWay : GoodIn wsX1_start wsX1_endOfWay := goodIn_r _ [6, 7, 8, 9, 10, 11, 12, 13, 14, 15, 16, 5, 17, 18, 19, 20, 21, 22, 23, 24, 25, 26, 27, 28, 29, 30, 31, 32, 33, 34, 35, 41, 42, 43, 44, 45, 46, 47, 48, 49, 50, 51, 52, 53, 54, 55, 56, 57, 58, 59, 60] (by decide +kernel) (by decide +kernel)
set_option maxRecDepth 20000 in
theorem gX1_start_X1_endOfWay : GoodIn wsX1_start (wsV RX1 140 RX1 yX1_endOfWay wsX1_endOfWay) := goodIn_app (goodIn_of _ (by decide +kernel)) ggX1_start_X1_endOfWay
set_option maxRecDepth 20000 in
theorem ggX1_start_X0_go : GoodIn wsX1_start wsX0_go := goodIn_r _ [38, 39, 40, 41, 42, 43, 44, 45, 46, 47, 48, 49, 50, 51, 52, 53] (by decide +kernel) (by decide +kernel)
set_option maxRecDepth 20000 in
theorem gX1_start_X0_go_n77 : GoodIn wsX1_start (wsX0_go) := ggX1_start_X0_go
theorem dX1_start_0 : decode cX1_start 0 = .ok (.aload_n 1, 1) := by decide +kernel
theorem dX1_start_1 : decode cX1_start 1 = .ok (.iload_n 2, 1) := by decide +kernel
theorem dX1_start_2 : decode cX1_start 2 = .ok (.putfield 67, 3) := by decide +kernel
theorem dX1_start_5 : decode cX1_start 5 = .ok (.aload_n 1, 1) := by decide +kernel
theorem dX1_start_6 : decode cX1_start 6 = .ok (.aload_n 1, 1) := by decide +kernel
theorem dX1_start_7 : decode cX1_start 7 = .ok (.getfield 90, 3) := by decide +kernel
theorem dX1_start_10 : decode cX1_start 10 = .ok (.putfield 137, 3) := by decide +kernel
theorem dX1_start_13 : decode cX1_start 13 = .ok (.aload_n 1, 1) := by decide +kernel
theorem dX1_start_14 : decode cX1_start 14 = .ok (.aload_n 0, 1) := by decide +kernel
theorem dX1_start_15 : decode cX1_start 15 = .ok (.aload_n 1, 1) := by decide +kernel
theorem dX1_start_16 : decode cX1_start 16 = .ok (.iload_n 2, 1) := by decide +kernel
theorem dX1_start_17 : decode cX1_start 17 = .ok (.invokevirtual 140, 3) := by decide +kernel
theorem dX1_start_20 : decode cX1_start 20 = .ok (.putfield 112, 3) := by decide +kernel
theorem dX1_start_23 : decode cX1_start 23 = .ok (.aload_n 1, 1) := by decide +kernel
theorem dX1_start_24 : decode cX1_start 24 = .ok (.iload_n 2, 1) := by decide +kernel
theorem dX1_start_25 : decode cX1_start 25 = .ok (.iconst 1, 1) := by decide +kernel
theorem dX1_start_26 : decode cX1_start 26 = .ok (.if_icmp .ne 7, 3) := by decide +kernel
theorem dX1_start_29 : decode cX1_start 29 = .ok (.iconst (-1), 1) := by decide +kernel
theorem dX1_start_30 : decode cX1_start 30 = .ok (.goto 4, 3) := by decide +kernel
theorem dX1_start_33 : decode cX1_start 33 = .ok (.iconst 1, 1) := by decide +kernel
theorem dX1_start_34 : decode cX1_start 34 = .ok (.invokevirtual 77, 3) := by decide +kernel
theorem dX1_start_37 : decode cX1_start 37 = .ok (.aload_n 0, 1) := by decide +kernel
theorem dX1_start_38 : decode cX1_start 38 = .ok (.dup, 1) := by decide +kernel
theorem dX1_start_39 : decode cX1_start 39 = .ok (.getfield 58, 3) := by decide +kernel
theorem dX1_start_42 : decode cX1_start 42 = .ok (.iconst 1, 1) := by decide +kernel
theorem dX1_start_43 : decode cX1_start 43 = .ok (.iadd, 1) := by decide +kernel
theorem dX1_start_44 : decode cX1_start 44 = .ok (.putfield 58, 3) := by decide +kernel
theorem dX1_start_47 : decode cX1_start 47 = .ok (.return_, 1) := by decide +kernel
set_option maxRecDepth 20000 in
theorem ggX1_endOfWay_X1_lowCeiling : GoodIn wsX1_endOfWay wsX1_lowCeiling := goodIn_r _ [12, 13, 14, 5, 6, 3, 7, 15, 16, 17, 18, 19, 20, 21, 22, 31, 32, 33, 34, 35, 36, 37, 38, 39, 40, 41, 42, 43, 44, 45, 46, 47, 48, 49, 50] (by decide +kernel) (by decide +kernel)
set_option maxRecDepth 20000 in
theorem gX1_endOfWay_X1_lowCeiling : GoodIn wsX1_endOfWay (wsV RX1 109 RX1 yX1_lowCeiling wsX1_lowCeiling) := goodIn_app (goodIn_of _ (by decide +kernel)) ggX1_endOfWay_X1_lowCeiling
set_option maxRecDepth 20000 in
theorem ggX1_endOfWay_X1_lowFloor : GoodIn wsX1_endOfWay wsX1_lowFloor := goodIn_r _ [26, 13, 14, 5, 6, 3, 7, 20, 16, 21, 22, 19, 31, 32, 33, 34, 35, 36, 37, 38, 39, 40, 41, 42, 43, 44, 45, 46, 47, 48, 49, 50] (by decide +kernel) (by decide +kernel)
set_option maxRecDepth 20000 in
theorem gX1_endOfWay_X1_lowFloor : GoodIn wsX1_endOfWay (wsV RX1 103 RX1 yX1_lowFloor wsX1_lowFloor) := goodIn_app (goodIn_of _ (by decide +kernel)) ggX1_endOfWay_X1_lowFloor
set_option maxRecDepth 20000 in
theorem ggX1_endOfWay_X1_highFloor : GoodIn wsX1_endOfWay wsX1_highFloor := goodIn_r _ [30, 13, 14, 1, 2, 3, 4, 20, 16, 21, 22, 19, 31, 32, 33, 34, 35, 36, 37, 38, 39, 40, 41, 42, 43, 44, 45, 46, 47, 48, 49, 50] (by decide +kernel) (by decide +kernel)
set_option maxRecDepth 20000 in
theorem gX1_endOfWay_X1_highFloor : GoodIn wsX1_endOfWay (wsV RX1 106 RX1 yX1_highFloor wsX1_highFloor) := goodIn_app (goodIn_of _ (by decide +kernel)) ggX1_endOfWay_X1_highFloor
theorem dX1_endOfWay_0 : decode cX1_endOfWay 0 = .ok (.iload_n 2, 1) := by decide +kernel
theorem dX1_endOfWay_1 : decode cX1_endOfWay 1 = .ok (.lookupswitch 48 #[(0, 27), (1, 42)], 27) := by decide +kernel
theorem dX1_endOfWay_28 : decode cX1_endOfWay 28 = .ok (.aload_n 0, 1) := by decide +kernel
theorem dX1_endOfWay_29 : decode cX1_endOfWay 29 = .ok (.aload_n 1, 1) := by decide +kernel
theorem dX1_endOfWay_30 : decode cX1_endOfWay 30 = .ok (.invokevirtual 109, 3) := by decide +kernel
theorem dX1_endOfWay_33 : decode cX1_endOfWay 33 = .ok (.iconst 4, 1) := by decide +kernel
theorem dX1_endOfWay_34 : decode cX1_endOfWay 34 = .ok (.isub, 1) := by decide +kernel
theorem dX1_endOfWay_35 : decode cX1_endOfWay 35 = .ok (.aload_n 1, 1) := by decide +kernel
theorem dX1_endOfWay_36 : decode cX1_endOfWay 36 = .ok (.getfield 93, 3) := by decide +kernel
theorem dX1_endOfWay_39 : decode cX1_endOfWay 39 = .ok (.invokestatic 124, 3) := by decide +kernel
theorem dX1_endOfWay_42 : decode cX1_endOfWay 42 = .ok (.ireturn, 1) := by decide +kernel
theorem dX1_endOfWay_43 : decode cX1_endOfWay 43 = .ok (.aload_n 0, 1) := by decide +kernel
theorem dX1_endOfWay_44 : decode cX1_endOfWay 44 = .ok (.aload_n 1, 1) := by decide +kernel
theorem dX1_endOfWay_45 : decode cX1_endOfWay 45 = .ok (.invokevirtual 103, 3) := by decide +kernel
theorem dX1_endOfWay_48 : decode cX1_endOfWay 48 = .ok (.ireturn, 1) := by decide +kernel
theorem dX1_endOfWay_49 : decode cX1_endOfWay 49 = .ok (.aload_n 0, 1) := by decide +kernel
theorem dX1_endOfWay_50 : decode cX1_endOfWay 50 = .ok (.aload_n 1, 1) := by decide +kernel
theorem dX1_endOfWay_51 : decode cX1_endOfWay 51 = .ok (.invokevirtual 106, 3) := by decide +kernel
theorem dX1_endOfWay_54 : decode cX1_endOfWay 54 = .ok (.aload_n 1, 1) := by decide +kernel
theorem dX1_endOfWay_55 : decode cX1_endOfWay 55 = .ok (.getfield 93, 3) := by decide +kernel
theorem dX1_endOfWay_58 : decode cX1_endOfWay 58 = .ok (.invokestatic 118, 3) := by decide +kernel
theorem dX1_endOfWay_61 : decode cX1_endOfWay 61 = .ok (.ireturn, 1) := by decide +kernel
set_option maxRecDepth 20000 in
theorem ggX1_finish_X0_dropMover : GoodIn wsX1_finish wsX0_dropMover := goodIn_r _ [5, 6, 7, 8, 9, 10, 3, 11, 12, 13, 21, 22, 23, 24, 25, 26, 27, 28, 29, 30, 31, 32, 33] (by decide +kernel) (by decide +kernel)
set_option maxRecDepth 20000 in
theorem gX1_finish_X0_dropMover_n144 : GoodIn wsX1_finish (wsX0_dropMover) := ggX1_finish_X0_dropMover
theorem dX1_finish_0 : decode cX1_finish 0 = .ok (.aload_n 1, 1) := by decide +kernel
theorem dX1_finish_1 : decode cX1_finish 1 = .ok (.invokevirtual 144, 3) := by decide +kernel
theorem dX1_finish_4 : decode cX1_finish 4 = .ok (.aload_n 0, 1) := by decide +kernel
theorem dX1_finish_5 : decode cX1_finish 5 = .ok (.dup, 1) := by decide +kernel
theorem dX1_finish_6 : decode cX1_finish 6 = .ok (.getfield 58, 3) := by decide +kernel
theorem dX1_finish_9 : decode cX1_finish 9 = .ok (.iconst 1, 1) := by decide +kernel
theorem dX1_finish_10 : decode cX1_finish 10 = .ok (.isub, 1) := by decide +kernel
theorem dX1_finish_11 : decode cX1_finish 11 = .ok (.putfield 58, 3) := by decide +kernel
theorem dX1_finish_14 : decode cX1_finish 14 = .ok (.return_, 1) := by decide +kernel
set_option maxRecDepth 20000 in
theorem ggX1_passOneTick_X1_move : GoodIn wsX1_passOneTick wsX1_move := goodIn_r _ [10, 11, 12, 13, 14, 15, 16, 17, 18, 19, 20, 9, 21, 22, 23, 24, 25, 26, 27, 28, 29, 30, 31, 32, 33, 34, 35, 36, 37, 38, 39, 40, 2, 41, 42, 43, 44, 45, 46, 47, 48, 49, 50, 51, 52, 53, 54, 55, 56, 64, 65, 66, 67, 68, 69, 70, 71, 72, 73, 74, 75, 76, 57, 58, 59, 60, 61, 62, 63] (by decide +kernel) (by decide +kernel)
set_option maxRecDepth 20000 in
theorem gX1_passOneTick_X1_move : GoodIn wsX1_passOneTick (wsV RX1 147 RX1 yX1_move wsX1_move) := goodIn_app (goodIn_of _ (by decide +kernel)) ggX1_passOneTick_X1_move
theorem dX1_passOneTick_0 : decode cX1_passOneTick 0 = .ok (.aload_n 0, 1) := by decide +kernel
theorem dX1_passOneTick_1 : decode cX1_passOneTick 1 = .ok (.dup, 1) := by decide +kernel
theorem dX1_passOneTick_2 : decode cX1_passOneTick 2 = .ok (.getfield 55, 3) := by decide +kernel
theorem dX1_passOneTick_5 : decode cX1_passOneTick 5 = .ok (.iconst 1, 1) := by decide +kernel
theorem dX1_passOneTick_6 : decode cX1_passOneTick 6 = .ok (.iadd, 1) := by decide +kernel
theorem dX1_passOneTick_7 : decode cX1_passOneTick 7 = .ok (.putfield 55, 3) := by decide +kernel
theorem dX1_passOneTick_10 : decode cX1_passOneTick 10 = .ok (.aload_n 0, 1) := by decide +kernel
theorem dX1_passOneTick_11 : decode cX1_passOneTick 11 = .ok (.getfield 58, 3) := by decide +kernel
theorem dX1_passOneTick_14 : decode cX1_passOneTick 14 = .ok (.ifCond .ne 4, 3) := by decide +kernel
theorem dX1_passOneTick_17 : decode cX1_passOneTick 17 = .ok (.return_, 1) := by decide +kernel
theorem dX1_passOneTick_18 : decode cX1_passOneTick 18 = .ok (.iconst 0, 1) := by decide +kernel
theorem dX1_passOneTick_19 : decode cX1_passOneTick 19 = .ok (.istore_n 1, 1) := by decide +kernel
theorem dX1_passOneTick_20 : decode cX1_passOneTick 20 = .ok (.iload_n 1, 1) := by decide +kernel
theorem dX1_passOneTick_21 : decode cX1_passOneTick 21 = .ok (.aload_n 0, 1) := by decide +kernel
theorem dX1_passOneTick_22 : decode cX1_passOneTick 22 = .ok (.getfield 20, 3) := by decide +kernel
theorem dX1_passOneTick_25 : decode cX1_passOneTick 25 = .ok (.if_icmp .ge 32, 3) := by decide +kernel
theorem dX1_passOneTick_28 : decode cX1_passOneTick 28 = .ok (.aload_n 0, 1) := by decide +kernel
theorem dX1_passOneTick_29 : decode cX1_passOneTick 29 = .ok (.aload_n 0, 1) := by decide +kernel
theorem dX1_passOneTick_30 : decode cX1_passOneTick 30 = .ok (.getfield 11, 3) := by decide +kernel
theorem dX1_passOneTick_33 : decode cX1_passOneTick 33 = .ok (.iload_n 1, 1) := by decide +kernel
theorem dX1_passOneTick_34 : decode cX1_passOneTick 34 = .ok (.aaload, 1) := by decide +kernel
theorem dX1_passOneTick_35 : decode cX1_passOneTick 35 = .ok (.iload_n 1, 1) := by decide +kernel
theorem dX1_passOneTick_36 : decode cX1_passOneTick 36 = .ok (.aload_n 0, 1) := by decide +kernel
theorem dX1_passOneTick_37 : decode cX1_passOneTick 37 = .ok (.getfield 16, 3) := by decide +kernel
theorem dX1_passOneTick_40 : decode cX1_passOneTick 40 = .ok (.if_icmp .ne 7, 3) := by decide +kernel
theorem dX1_passOneTick_43 : decode cX1_passOneTick 43 = .ok (.iconst 1, 1) := by decide +kernel
theorem dX1_passOneTick_44 : decode cX1_passOneTick 44 = .ok (.goto 4, 3) := by decide +kernel
theorem dX1_passOneTick_47 : decode cX1_passOneTick 47 = .ok (.iconst 0, 1) := by decide +kernel
theorem dX1_passOneTick_48 : decode cX1_passOneTick 48 = .ok (.invokevirtual 147, 3) := by decide +kernel
theorem dX1_passOneTick_51 : decode cX1_passOneTick 51 = .ok (.iinc 1 1, 3) := by decide +kernel
theorem dX1_passOneTick_54 : decode cX1_passOneTick 54 = .ok (.goto (-34), 3) := by decide +kernel
theorem dX1_passOneTick_57 : decode cX1_passOneTick 57 = .ok (.return_, 1) := by decide +kernel
set_option maxRecDepth 20000 in
theorem ggX1_move_X0_waitOneTick : GoodIn wsX1_move wsX0_waitOneTick := goodIn_r _ [4, 5, 6, 7, 49, 50, 51, 52, 53, 54, 55, 56, 57, 58, 59, 60, 61] (by decide +kernel) (by decide +kernel)
set_option maxRecDepth 20000 in
theorem gX1_move_X0_waitOneTick_n151 : GoodIn wsX1_move (wsX0_waitOneTick) := ggX1_move_X0_waitOneTick
set_option maxRecDepth 20000 in
theorem ggX1_move_X1_moveDoor : GoodIn wsX1_move wsX1_moveDoor := goodIn_r _ [12, 13, 14, 15, 16, 17, 18, 19, 11, 20, 21, 22, 23, 24, 25, 2, 26, 27, 7, 5, 28, 29, 30, 31, 32, 33, 34, 35, 6, 36, 37, 38, 39, 40, 49, 50, 51, 52, 53, 54, 55, 56, 57, 58, 59, 60, 61, 62, 63, 64, 65, 66, 67, 68] (by decide +kernel) (by decide +kernel)
set_option maxRecDepth 20000 in
theorem gX1_move_X1_moveDoor : GoodIn wsX1_move (wsV RX1 154 RX1 yX1_moveDoor wsX1_moveDoor) := goodIn_app (goodIn_of _ (by decide +kernel)) ggX1_move_X1_moveDoor
set_option maxRecDepth 20000 in
theorem ggX1_move_X1_moveLift : GoodIn wsX1_move wsX1_moveLift := goodIn_r _ [44, 21, 22, 15, 23, 45, 46, 47, 11, 48, 13, 14, 16, 24, 28, 29, 30, 31, 32, 33, 2, 34, 35, 6, 36, 37, 25, 26, 27, 7, 5, 38, 39, 40, 49, 50, 51, 52, 53, 54, 55, 56, 57, 58, 59, 60, 61, 62, 63, 64, 65, 66, 67, 68] (by decide +kernel) (by decide +kernel)
set_option maxRecDepth 20000 in
theorem gX1_move_X1_moveLift : GoodIn wsX1_move (wsV RX1 157 RX1 yX1_moveLift wsX1_moveLift) := goodIn_app (goodIn_of _ (by decide +kernel)) ggX1_move_X1_moveLift
set_option maxRecDepth 20000 in
theorem ggX1_move_X1_raiseFloor : GoodIn wsX1_move wsX1_raiseFloor := goodIn_r _ [48, 13, 14, 15, 16, 24, 28, 29, 30, 11, 31, 32, 33, 2, 34, 35, 6, 36, 37, 25, 26, 27, 7, 5, 49, 50, 51, 52, 53, 54, 55, 56, 57, 58, 59, 60, 61, 62, 63, 64, 65, 66, 67, 68] (by decide +kernel) (by decide +kernel)
set_option maxRecDepth 20000 in
theorem gX1_move_X1_raiseFloor : GoodIn wsX1_move (wsV RX1 160 RX1 yX1_raiseFloor wsX1_raiseFloor) := goodIn_app (goodIn_of _ (by decide +kernel)) ggX1_move_X1_raiseFloor
theorem dX1_move_0 : decode cX1_move 0 = .ok (.aload_n 1, 1) := by decide +kernel
theorem dX1_move_1 : decode cX1_move 1 = .ok (.getfield 67, 3) := by decide +kernel
theorem dX1_move_4 : decode cX1_move 4 = .ok (.iconst (-1), 1) := by decide +kernel
theorem dX1_move_5 : decode cX1_move 5 = .ok (.if_icmp .ne 4, 3) := by decide +kernel
theorem dX1_move_8 : decode cX1_move 8 = .ok (.return_, 1) := by decide +kernel
theorem dX1_move_9 : decode cX1_move 9 = .ok (.aload_n 1, 1) := by decide +kernel
theorem dX1_move_10 : decode cX1_move 10 = .ok (.getfield 100, 3) := by decide +kernel
theorem dX1_move_13 : decode cX1_move 13 = .ok (.ifCond .le 8, 3) := by decide +kernel
theorem dX1_move_16 : decode cX1_move 16 = .ok (.aload_n 1, 1) := by decide +kernel
theorem dX1_move_17 : decode cX1_move 17 = .ok (.invokevirtual 151, 3) := by decide +kernel
theorem dX1_move_20 : decode cX1_move 20 = .ok (.return_, 1) := by decide +kernel
theorem dX1_move_21 : decode cX1_move 21 = .ok (.aload_n 1, 1) := by decide +kernel
theorem dX1_move_22 : decode cX1_move 22 = .ok (.getfield 67, 3) := by decide +kernel
theorem dX1_move_25 : decode cX1_move 25 = .ok (.lookupswitch 45 #[(0, 27), (1, 36)], 27) := by decide +kernel
theorem dX1_move_52 : decode cX1_move 52 = .ok (.aload_n 0, 1) := by decide +kernel
theorem dX1_move_53 : decode cX1_move 53 = .ok (.aload_n 1, 1) := by decide +kernel
theorem dX1_move_54 : decode cX1_move 54 = .ok (.iload_n 2, 1) := by decide +kernel
theorem dX1_move_55 : decode cX1_move 55 = .ok (.invokevirtual 154, 3) := by decide +kernel
theorem dX1_move_58 : decode cX1_move 58 = .ok (.goto 23, 3) := by decide +kernel
theorem dX1_move_61 : decode cX1_move 61 = .ok (.aload_n 0, 1) := by decide +kernel
theorem dX1_move_62 : decode cX1_move 62 = .ok (.aload_n 1, 1) := by decide +kernel
theorem dX1_move_63 : decode cX1_move 63 = .ok (.iload_n 2, 1) := by decide +kernel
theorem dX1_move_64 : decode cX1_move 64 = .ok (.invokevirtual 157, 3) := by decide +kernel
theorem dX1_move_67 : decode cX1_move 67 = .ok (.goto 14, 3) := by decide +kernel
theorem dX1_move_70 : decode cX1_move 70 = .ok (.aload_n 0, 1) := by decide +kernel
theorem dX1_move_71 : decode cX1_move 71 = .ok (.aload_n 1, 1) := by decide +kernel
theorem dX1_move_72 : decode cX1_move 72 = .ok (.iconst 2, 1) := by decide +kernel
theorem dX1_move_73 : decode cX1_move 73 = .ok (.aload_n 1, 1) := by decide +kernel
theorem dX1_move_74 : decode cX1_move 74 = .ok (.getfield 112, 3) := by decide +kernel
theorem dX1_move_77 : decode cX1_move 77 = .ok (.iload_n 2, 1) := by decide +kernel
theorem dX1_move_78 : decode cX1_move 78 = .ok (.invokevirtual 160, 3) := by decide +kernel
theorem dX1_move_81 : decode cX1_move 81 = .ok (.return_, 1) := by decide +kernel
set_option maxRecDepth 20000 in
theorem ggX1_moveDoor_X1_closeDoor : GoodIn wsX1_moveDoor wsX1_closeDoor := goodIn_r _ [9, 10, 11, 3, 12, 13, 14, 15, 16, 17, 18, 19, 20, 21, 22, 8, 23, 24, 25, 26, 27, 28, 29, 30, 34, 35, 36, 37, 38, 39, 40, 41, 42, 43, 44, 45, 46, 47, 48, 49, 50, 51, 52, 53] (by decide +kernel) (by decide +kernel)
set_option maxRecDepth 20000 in
theorem gX1_moveDoor_X1_closeDoor : GoodIn wsX1_moveDoor (wsV RX1 164 RX1 yX1_closeDoor wsX1_closeDoor) := goodIn_app (goodIn_of _ (by decide +kernel)) ggX1_moveDoor_X1_closeDoor
set_option maxRecDepth 20000 in
theorem ggX1_moveDoor_X0_waitFor : GoodIn wsX1_moveDoor wsX0_waitFor := goodIn_r _ [33, 18, 19, 34, 35, 36, 37, 38, 39, 40, 41, 42, 43, 44, 45, 46] (by decide +kernel) (by decide +kernel)
set_option maxRecDepth 20000 in
theorem gX1_moveDoor_X0_waitFor_n167 : GoodIn wsX1_moveDoor (wsX0_waitFor) := ggX1_moveDoor_X0_waitFor
theorem dX1_moveDoor_0 : decode cX1_moveDoor 0 = .ok (.aload_n 1, 1) := by decide +kernel
theorem dX1_moveDoor_1 : decode cX1_moveDoor 1 = .ok (.getfield 74, 3) := by decide +kernel
theorem dX1_moveDoor_4 : decode cX1_moveDoor 4 = .ok (.iconst (-1), 1) := by decide +kernel
theorem dX1_moveDoor_5 : decode cX1_moveDoor 5 = .ok (.if_icmp .ne 10, 3) := by decide +kernel
theorem dX1_moveDoor_8 : decode cX1_moveDoor 8 = .ok (.aload_n 0, 1) := by decide +kernel
theorem dX1_moveDoor_9 : decode cX1_moveDoor 9 = .ok (.aload_n 1, 1) := by decide +kernel
theorem dX1_moveDoor_10 : decode cX1_moveDoor 10 = .ok (.iload_n 2, 1) := by decide +kernel
theorem dX1_moveDoor_11 : decode cX1_moveDoor 11 = .ok (.invokevirtual 164, 3) := by decide +kernel
theorem dX1_moveDoor_14 : decode cX1_moveDoor 14 = .ok (.return_, 1) := by decide +kernel
theorem dX1_moveDoor_15 : decode cX1_moveDoor 15 = .ok (.aload_n 1, 1) := by decide +kernel
theorem dX1_moveDoor_16 : decode cX1_moveDoor 16 = .ok (.aload_n 1, 1) := by decide +kernel
theorem dX1_moveDoor_17 : decode cX1_moveDoor 17 = .ok (.getfield 93, 3) := by decide +kernel
theorem dX1_moveDoor_20 : decode cX1_moveDoor 20 = .ok (.bipush 8, 2) := by decide +kernel
theorem dX1_moveDoor_22 : decode cX1_moveDoor 22 = .ok (.iadd, 1) := by decide +kernel
theorem dX1_moveDoor_23 : decode cX1_moveDoor 23 = .ok (.aload_n 1, 1) := by decide +kernel
theorem dX1_moveDoor_24 : decode cX1_moveDoor 24 = .ok (.getfield 112, 3) := by decide +kernel
theorem dX1_moveDoor_27 : decode cX1_moveDoor 27 = .ok (.invokestatic 118, 3) := by decide +kernel
theorem dX1_moveDoor_30 : decode cX1_moveDoor 30 = .ok (.putfield 93, 3) := by decide +kernel
theorem dX1_moveDoor_33 : decode cX1_moveDoor 33 = .ok (.aload_n 1, 1) := by decide +kernel
theorem dX1_moveDoor_34 : decode cX1_moveDoor 34 = .ok (.getfield 93, 3) := by decide +kernel
theorem dX1_moveDoor_37 : decode cX1_moveDoor 37 = .ok (.aload_n 1, 1) := by decide +kernel
theorem dX1_moveDoor_38 : decode cX1_moveDoor 38 = .ok (.getfield 112, 3) := by decide +kernel
theorem dX1_moveDoor_41 : decode cX1_moveDoor 41 = .ok (.if_icmp .ne 9, 3) := by decide +kernel
theorem dX1_moveDoor_44 : decode cX1_moveDoor 44 = .ok (.aload_n 1, 1) := by decide +kernel
theorem dX1_moveDoor_45 : decode cX1_moveDoor 45 = .ok (.bipush 20, 2) := by decide +kernel
theorem dX1_moveDoor_47 : decode cX1_moveDoor 47 = .ok (.invokevirtual 167, 3) := by decide +kernel
theorem dX1_moveDoor_50 : decode cX1_moveDoor 50 = .ok (.return_, 1) := by decide +kernel
set_option maxRecDepth 20000 in
theorem ggX1_closeDoor_X0_go : GoodIn wsX1_closeDoor wsX0_go := goodIn_r _ [9, 10, 11, 24, 25, 26, 27, 28, 29, 30, 31, 32, 33, 34, 35, 36] (by decide +kernel) (by decide +kernel)
set_option maxRecDepth 20000 in
theorem gX1_closeDoor_X0_go_n77 : GoodIn wsX1_closeDoor (wsX0_go) := ggX1_closeDoor_X0_go
set_option maxRecDepth 20000 in
theorem ggX1_closeDoor_X1_finish : GoodIn wsX1_closeDoor wsX1_finish := goodIn_r _ [16, 17, 18, 7, 19, 20, 21, 22, 23, 6, 8, 9, 10, 11, 37, 38, 39, 40, 41, 42, 43, 24, 25, 26, 27, 28, 29, 30, 31, 32, 33, 34, 35, 36] (by decide +kernel) (by decide +kernel)
set_option maxRecDepth 20000 in
theorem gX1_closeDoor_X1_finish : GoodIn wsX1_closeDoor (wsV RX1 170 RX1 yX1_finish wsX1_finish) := goodIn_app (goodIn_of _ (by decide +kernel)) ggX1_closeDoor_X1_finish
theorem dX1_closeDoor_0 : decode cX1_closeDoor 0 = .ok (.aload_n 1, 1) := by decide +kernel
theorem dX1_closeDoor_1 : decode cX1_closeDoor 1 = .ok (.getfield 93, 3) := by decide +kernel
theorem dX1_closeDoor_4 : decode cX1_closeDoor 4 = .ok (.bipush 8, 2) := by decide +kernel
theorem dX1_closeDoor_6 : decode cX1_closeDoor 6 = .ok (.isub, 1) := by decide +kernel
theorem dX1_closeDoor_7 : decode cX1_closeDoor 7 = .ok (.aload_n 1, 1) := by decide +kernel
theorem dX1_closeDoor_8 : decode cX1_closeDoor 8 = .ok (.getfield 90, 3) := by decide +kernel
theorem dX1_closeDoor_11 : decode cX1_closeDoor 11 = .ok (.invokestatic 124, 3) := by decide +kernel
theorem dX1_closeDoor_14 : decode cX1_closeDoor 14 = .ok (.istore_n 3, 1) := by decide +kernel
theorem dX1_closeDoor_15 : decode cX1_closeDoor 15 = .ok (.iload_n 2, 1) := by decide +kernel
theorem dX1_closeDoor_16 : decode cX1_closeDoor 16 = .ok (.ifCond .eq 30, 3) := by decide +kernel
theorem dX1_closeDoor_19 : decode cX1_closeDoor 19 = .ok (.iload_n 3, 1) := by decide +kernel
theorem dX1_closeDoor_20 : decode cX1_closeDoor 20 = .ok (.aload_n 1, 1) := by decide +kernel
theorem dX1_closeDoor_21 : decode cX1_closeDoor 21 = .ok (.getfield 90, 3) := by decide +kernel
theorem dX1_closeDoor_24 : decode cX1_closeDoor 24 = .ok (.isub, 1) := by decide +kernel
theorem dX1_closeDoor_25 : decode cX1_closeDoor 25 = .ok (.bipush 56, 2) := by decide +kernel
theorem dX1_closeDoor_27 : decode cX1_closeDoor 27 = .ok (.if_icmp .ge 19, 3) := by decide +kernel
theorem dX1_closeDoor_30 : decode cX1_closeDoor 30 = .ok (.aload_n 0, 1) := by decide +kernel
theorem dX1_closeDoor_31 : decode cX1_closeDoor 31 = .ok (.dup, 1) := by decide +kernel
theorem dX1_closeDoor_32 : decode cX1_closeDoor 32 = .ok (.getfield 61, 3) := by decide +kernel
theorem dX1_closeDoor_35 : decode cX1_closeDoor 35 = .ok (.iconst 1, 1) := by decide +kernel
theorem dX1_closeDoor_36 : decode cX1_closeDoor 36 = .ok (.iadd, 1) := by decide +kernel
theorem dX1_closeDoor_37 : decode cX1_closeDoor 37 = .ok (.putfield 61, 3) := by decide +kernel
theorem dX1_closeDoor_40 : decode cX1_closeDoor 40 = .ok (.aload_n 1, 1) := by decide +kernel
theorem dX1_closeDoor_41 : decode cX1_closeDoor 41 = .ok (.iconst 1, 1) := by decide +kernel
theorem dX1_closeDoor_42 : decode cX1_closeDoor 42 = .ok (.invokevirtual 77, 3) := by decide +kernel
theorem dX1_closeDoor_45 : decode cX1_closeDoor 45 = .ok (.return_, 1) := by decide +kernel
theorem dX1_closeDoor_46 : decode cX1_closeDoor 46 = .ok (.aload_n 1, 1) := by decide +kernel
theorem dX1_closeDoor_47 : decode cX1_closeDoor 47 = .ok (.iload_n 3, 1) := by decide +kernel
theorem dX1_closeDoor_48 : decode cX1_closeDoor 48 = .ok (.putfield 93, 3) := by decide +kernel
theorem dX1_closeDoor_51 : decode cX1_closeDoor 51 = .ok (.iload_n 3, 1) := by decide +kernel
theorem dX1_closeDoor_52 : decode cX1_closeDoor 52 = .ok (.aload_n 1, 1) := by decide +kernel
theorem dX1_closeDoor_53 : decode cX1_closeDoor 53 = .ok (.getfield 90, 3) := by decide +kernel
theorem dX1_closeDoor_56 : decode cX1_closeDoor 56 = .ok (.if_icmp .ne 8, 3) := by decide +kernel
theorem dX1_closeDoor_59 : decode cX1_closeDoor 59 = .ok (.aload_n 0, 1) := by decide +kernel
theorem dX1_closeDoor_60 : decode cX1_closeDoor 60 = .ok (.aload_n 1, 1) := by decide +kernel
theorem dX1_closeDoor_61 : decode cX1_closeDoor 61 = .ok (.invokevirtual 170, 3) := by decide +kernel
theorem dX1_closeDoor_64 : decode cX1_closeDoor 64 = .ok (.return_, 1) := by decide +kernel
set_option maxRecDepth 20000 in
theorem ggX1_moveLift_X1_raiseFloor : GoodIn wsX1_moveLift wsX1_raiseFloor := goodIn_r _ [9, 10, 11, 3, 12, 13, 14, 15, 16, 8, 17, 18, 19, 20, 21, 22, 23, 24, 25, 26, 27, 28, 29, 30, 34, 35, 36, 37, 38, 39, 40, 41, 42, 43, 44, 45, 46, 47, 48, 49, 50, 51, 52, 53] (by decide +kernel) (by decide +kernel)
set_option maxRecDepth 20000 in
theorem gX1_moveLift_X1_raiseFloor : GoodIn wsX1_moveLift (wsV RX1 160 RX1 yX1_raiseFloor wsX1_raiseFloor) := goodIn_app (goodIn_of _ (by decide +kernel)) ggX1_moveLift_X1_raiseFloor
set_option maxRecDepth 20000 in
theorem ggX1_moveLift_X0_waitFor : GoodIn wsX1_moveLift wsX0_waitFor := goodIn_r _ [33, 29, 30, 34, 35, 36, 37, 38, 39, 40, 41, 42, 43, 44, 45, 46] (by decide +kernel) (by decide +kernel)
set_option maxRecDepth 20000 in
theorem gX1_moveLift_X0_waitFor_n167 : GoodIn wsX1_moveLift (wsX0_waitFor) := ggX1_moveLift_X0_waitFor
theorem dX1_moveLift_0 : decode cX1_moveLift 0 = .ok (.aload_n 1, 1) := by decide +kernel
theorem dX1_moveLift_1 : decode cX1_moveLift 1 = .ok (.getfield 74, 3) := by decide +kernel
theorem dX1_moveLift_4 : decode cX1_moveLift 4 = .ok (.iconst 1, 1) := by decide +kernel
theorem dX1_moveLift_5 : decode cX1_moveLift 5 = .ok (.if_icmp .ne 15, 3) := by decide +kernel
theorem dX1_moveLift_8 : decode cX1_moveLift 8 = .ok (.aload_n 0, 1) := by decide +kernel
theorem dX1_moveLift_9 : decode cX1_moveLift 9 = .ok (.aload_n 1, 1) := by decide +kernel
theorem dX1_moveLift_10 : decode cX1_moveLift 10 = .ok (.iconst 4, 1) := by decide +kernel
theorem dX1_moveLift_11 : decode cX1_moveLift 11 = .ok (.aload_n 1, 1) := by decide +kernel
theorem dX1_moveLift_12 : decode cX1_moveLift 12 = .ok (.getfield 137, 3) := by decide +kernel
theorem dX1_moveLift_15 : decode cX1_moveLift 15 = .ok (.iload_n 2, 1) := by decide +kernel
theorem dX1_moveLift_16 : decode cX1_moveLift 16 = .ok (.invokevirtual 160, 3) := by decide +kernel
theorem dX1_moveLift_19 : decode cX1_moveLift 19 = .ok (.return_, 1) := by decide +kernel
theorem dX1_moveLift_20 : decode cX1_moveLift 20 = .ok (.aload_n 1, 1) := by decide +kernel
theorem dX1_moveLift_21 : decode cX1_moveLift 21 = .ok (.aload_n 1, 1) := by decide +kernel
theorem dX1_moveLift_22 : decode cX1_moveLift 22 = .ok (.getfield 90, 3) := by decide +kernel
theorem dX1_moveLift_25 : decode cX1_moveLift 25 = .ok (.iconst 4, 1) := by decide +kernel
theorem dX1_moveLift_26 : decode cX1_moveLift 26 = .ok (.isub, 1) := by decide +kernel
theorem dX1_moveLift_27 : decode cX1_moveLift 27 = .ok (.aload_n 1, 1) := by decide +kernel
theorem dX1_moveLift_28 : decode cX1_moveLift 28 = .ok (.getfield 112, 3) := by decide +kernel
theorem dX1_moveLift_31 : decode cX1_moveLift 31 = .ok (.invokestatic 124, 3) := by decide +kernel
theorem dX1_moveLift_34 : decode cX1_moveLift 34 = .ok (.putfield 90, 3) := by decide +kernel
theorem dX1_moveLift_37 : decode cX1_moveLift 37 = .ok (.aload_n 1, 1) := by decide +kernel
theorem dX1_moveLift_38 : decode cX1_moveLift 38 = .ok (.getfield 90, 3) := by decide +kernel
theorem dX1_moveLift_41 : decode cX1_moveLift 41 = .ok (.aload_n 1, 1) := by decide +kernel
theorem dX1_moveLift_42 : decode cX1_moveLift 42 = .ok (.getfield 112, 3) := by decide +kernel
theorem dX1_moveLift_45 : decode cX1_moveLift 45 = .ok (.if_icmp .ne 9, 3) := by decide +kernel
theorem dX1_moveLift_48 : decode cX1_moveLift 48 = .ok (.aload_n 1, 1) := by decide +kernel
theorem dX1_moveLift_49 : decode cX1_moveLift 49 = .ok (.bipush 30, 2) := by decide +kernel
theorem dX1_moveLift_51 : decode cX1_moveLift 51 = .ok (.invokevirtual 167, 3) := by decide +kernel
theorem dX1_moveLift_54 : decode cX1_moveLift 54 = .ok (.return_, 1) := by decide +kernel
set_option maxRecDepth 20000 in
theorem ggX1_raiseFloor_X1_finish : GoodIn wsX1_raiseFloor wsX1_finish := goodIn_r _ [10, 11, 12, 13, 14, 15, 16, 17, 18, 19, 20, 21, 22, 23, 37, 38, 39, 40, 41, 42, 43, 24, 25, 26, 27, 28, 29, 30, 31, 32, 33, 34, 35, 36] (by decide +kernel) (by decide +kernel)
set_option maxRecDepth 20000 in
theorem gX1_raiseFloor_X1_finish : GoodIn wsX1_raiseFloor (wsV RX1 170 RX1 yX1_finish wsX1_finish) := goodIn_app (goodIn_of _ (by decide +kernel)) ggX1_raiseFloor_X1_finish
theorem dX1_raiseFloor_0 : decode cX1_raiseFloor 0 = .ok (.aload_n 1, 1) := by decide +kernel
theorem dX1_raiseFloor_1 : decode cX1_raiseFloor 1 = .ok (.getfield 90, 3) := by decide +kernel
theorem dX1_raiseFloor_4 : decode cX1_raiseFloor 4 = .ok (.iload_n 2, 1) := by decide +kernel
theorem dX1_raiseFloor_5 : decode cX1_raiseFloor 5 = .ok (.iadd, 1) := by decide +kernel
theorem dX1_raiseFloor_6 : decode cX1_raiseFloor 6 = .ok (.iload_n 3, 1) := by decide +kernel
theorem dX1_raiseFloor_7 : decode cX1_raiseFloor 7 = .ok (.invokestatic 118, 3) := by decide +kernel
theorem dX1_raiseFloor_10 : decode cX1_raiseFloor 10 = .ok (.istore 5, 2) := by decide +kernel
theorem dX1_raiseFloor_12 : decode cX1_raiseFloor 12 = .ok (.iload 4, 2) := by decide +kernel
theorem dX1_raiseFloor_14 : decode cX1_raiseFloor 14 = .ok (.ifCond .eq 26, 3) := by decide +kernel
theorem dX1_raiseFloor_17 : decode cX1_raiseFloor 17 = .ok (.aload_n 1, 1) := by decide +kernel
theorem dX1_raiseFloor_18 : decode cX1_raiseFloor 18 = .ok (.getfield 93, 3) := by decide +kernel
theorem dX1_raiseFloor_21 : decode cX1_raiseFloor 21 = .ok (.iload 5, 2) := by decide +kernel
theorem dX1_raiseFloor_23 : decode cX1_raiseFloor 23 = .ok (.isub, 1) := by decide +kernel
theorem dX1_raiseFloor_24 : decode cX1_raiseFloor 24 = .ok (.bipush 56, 2) := by decide +kernel
theorem dX1_raiseFloor_26 : decode cX1_raiseFloor 26 = .ok (.if_icmp .ge 14, 3) := by decide +kernel
theorem dX1_raiseFloor_29 : decode cX1_raiseFloor 29 = .ok (.aload_n 0, 1) := by decide +kernel
theorem dX1_raiseFloor_30 : decode cX1_raiseFloor 30 = .ok (.dup, 1) := by decide +kernel
theorem dX1_raiseFloor_31 : decode cX1_raiseFloor 31 = .ok (.getfield 61, 3) := by decide +kernel
theorem dX1_raiseFloor_34 : decode cX1_raiseFloor 34 = .ok (.iconst 1, 1) := by decide +kernel
theorem dX1_raiseFloor_35 : decode cX1_raiseFloor 35 = .ok (.iadd, 1) := by decide +kernel
theorem dX1_raiseFloor_36 : decode cX1_raiseFloor 36 = .ok (.putfield 61, 3) := by decide +kernel
theorem dX1_raiseFloor_39 : decode cX1_raiseFloor 39 = .ok (.return_, 1) := by decide +kernel
theorem dX1_raiseFloor_40 : decode cX1_raiseFloor 40 = .ok (.aload_n 1, 1) := by decide +kernel
theorem dX1_raiseFloor_41 : decode cX1_raiseFloor 41 = .ok (.iload 5, 2) := by decide +kernel
theorem dX1_raiseFloor_43 : decode cX1_raiseFloor 43 = .ok (.putfield 90, 3) := by decide +kernel
theorem dX1_raiseFloor_46 : decode cX1_raiseFloor 46 = .ok (.iload 5, 2) := by decide +kernel
theorem dX1_raiseFloor_48 : decode cX1_raiseFloor 48 = .ok (.iload_n 3, 1) := by decide +kernel
theorem dX1_raiseFloor_49 : decode cX1_raiseFloor 49 = .ok (.if_icmp .ne 8, 3) := by decide +kernel
theorem dX1_raiseFloor_52 : decode cX1_raiseFloor 52 = .ok (.aload_n 0, 1) := by decide +kernel
theorem dX1_raiseFloor_53 : decode cX1_raiseFloor 53 = .ok (.aload_n 1, 1) := by decide +kernel
theorem dX1_raiseFloor_54 : decode cX1_raiseFloor 54 = .ok (.invokevirtual 170, 3) := by decide +kernel
theorem dX1_raiseFloor_57 : decode cX1_raiseFloor 57 = .ok (.return_, 1) := by decide +kernel
theorem dJ9_max_7cf53_0 : decode cJ9_max_7cf53 0 = .ok (.iload_n 0, 1) := by decide +kernel
theorem dJ9_max_7cf53_1 : decode cJ9_max_7cf53 1 = .ok (.iload_n 1, 1) := by decide +kernel
theorem dJ9_max_7cf53_2 : decode cJ9_max_7cf53 2 = .ok (.if_icmp .lt 7, 3) := by decide +kernel
theorem dJ9_max_7cf53_5 : decode cJ9_max_7cf53 5 = .ok (.iload_n 0, 1) := by decide +kernel
theorem dJ9_max_7cf53_6 : decode cJ9_max_7cf53 6 = .ok (.goto 4, 3) := by decide +kernel
theorem dJ9_max_7cf53_9 : decode cJ9_max_7cf53 9 = .ok (.iload_n 1, 1) := by decide +kernel
theorem dJ9_max_7cf53_10 : decode cJ9_max_7cf53 10 = .ok (.ireturn, 1) := by decide +kernel
theorem dJ9_min_7cf53_0 : decode cJ9_min_7cf53 0 = .ok (.iload_n 0, 1) := by decide +kernel
theorem dJ9_min_7cf53_1 : decode cJ9_min_7cf53 1 = .ok (.iload_n 1, 1) := by decide +kernel
theorem dJ9_min_7cf53_2 : decode cJ9_min_7cf53 2 = .ok (.if_icmp .gt 7, 3) := by decide +kernel
theorem dJ9_min_7cf53_5 : decode cJ9_min_7cf53 5 = .ok (.iload_n 0, 1) := by decide +kernel
theorem dJ9_min_7cf53_6 : decode cJ9_min_7cf53 6 = .ok (.goto 4, 3) := by decide +kernel
theorem dJ9_min_7cf53_9 : decode cJ9_min_7cf53 9 = .ok (.iload_n 1, 1) := by decide +kernel
theorem dJ9_min_7cf53_10 : decode cJ9_min_7cf53 10 = .ok (.ireturn, 1) := by decide +kernel
end
section
set_option maxRecDepth 20000 in
theorem ggL_law_X1_init : GoodIn wsL_law wsX1_init := goodIn_r _ [5, 6, 7, 8, 9, 10, 11, 12, 13, 14, 15, 16, 174, 175, 176, 177, 178, 179, 180, 181, 182, 183, 184, 185, 186, 187, 188, 189, 190, 191, 192, 193] (by decide +kernel) (by decide +kernel)
set_option maxRecDepth 20000 in
theorem gL_law_X1_init : GoodIn wsL_law (wsX1_init) := ggL_law_X1_init
set_option maxRecDepth 20000 in
theorem ggL_law_X1_sector : GoodIn wsL_law wsX1_sector := goodIn_r _ [20, 21, 10, 22, 23, 2, 24, 25, 26, 27, 28, 12, 29, 30, 31, 32, 33, 34, 35, 36, 37, 38, 39, 40, 41, 42, 43, 13, 44, 45, 46, 47, 48, 49, 50, 51, 52, 53, 54, 55, 56, 57, 58, 59, 60, 174, 175, 176, 177, 178, 179, 180, 181, 182, 183, 184, 185, 186, 187, 188, 189, 190, 191, 192, 193] (by decide +kernel) (by decide +kernel)
set_option maxRecDepth 20000 in
theorem gL_law_X1_sector : GoodIn wsL_law (wsV RL 13 RX1 yX1_sector wsX1_sector) := goodIn_app (goodIn_of _ (by decide +kernel)) ggL_law_X1_sector
set_option maxRecDepth 20000 in
theorem ggL_law_X1_join : GoodIn wsL_law wsX1_join := goodIn_r _ [64, 10, 65, 66, 67, 68, 2, 69, 21, 70, 12, 71, 72, 36, 73, 74, 75, 174, 175, 176, 177, 178, 179, 180, 181, 182, 183, 184, 185, 186, 187, 188, 189, 190, 191, 192, 193] (by decide +kernel) (by decide +kernel)
set_option maxRecDepth 20000 in
theorem gL_law_X1_join : GoodIn wsL_law (wsV RL 18 RX1 yX1_join wsX1_join) := goodIn_app (goodIn_of _ (by decide +kernel)) ggL_law_X1_join
set_option maxRecDepth 20000 in
theorem ggL_law_X1_reset : GoodIn wsL_law wsX1_reset := goodIn_r _ [40, 21, 10, 41, 42, 43, 13, 44, 12, 45, 46, 31, 47, 32, 48, 49, 50, 51, 52, 53, 54, 55, 56, 57, 58, 59, 60, 174, 175, 176, 177, 178, 179, 180, 181, 182, 183, 184, 185, 186, 187, 188, 189, 190, 191, 192, 193] (by decide +kernel) (by decide +kernel)
set_option maxRecDepth 20000 in
theorem gL_law_X1_reset : GoodIn wsL_law (wsV RL 23 RX1 yX1_reset wsX1_reset) := goodIn_app (goodIn_of _ (by decide +kernel)) ggL_law_X1_reset
set_option maxRecDepth 20000 in
theorem ggL_law_X1_clear : GoodIn wsL_law wsX1_clear := goodIn_r _ [80, 21, 65, 37, 38, 39, 2, 40, 10, 41, 42, 43, 13, 44, 12, 45, 46, 31, 47, 32, 48, 49, 50, 51, 52, 53, 54, 55, 56, 57, 58, 59, 60, 174, 175, 176, 177, 178, 179, 180, 181, 182, 183, 184, 185, 186, 187, 188, 189, 190, 191, 192, 193] (by decide +kernel) (by decide +kernel)
set_option maxRecDepth 20000 in
theorem gL_law_X1_clear : GoodIn wsL_law (wsV RL 27 RX1 yX1_clear wsX1_clear) := goodIn_app (goodIn_of _ (by decide +kernel)) ggL_law_X1_clear
set_option maxRecDepth 20000 in
theorem ggL_law_X1_begin : GoodIn wsL_law wsX1_begin := goodIn_r _ [84, 10, 66, 67, 68, 2, 69, 21, 85, 86, 87, 25, 26, 27, 88, 89, 90, 91, 42, 92, 93, 94, 95, 96, 97, 98, 99, 100, 101, 102, 103, 104, 105, 106, 107, 12, 108, 109, 36, 70, 71, 72, 110, 111, 112, 113, 114, 115, 116, 117, 56, 57, 58, 59, 60, 174, 175, 176, 177, 178, 179, 180, 181, 182, 183, 184, 185, 186, 187, 188, 189, 190, 191, 192, 193] (by decide +kernel) (by decide +kernel)
set_option maxRecDepth 20000 in
theorem gL_law_X1_begin : GoodIn wsL_law (wsV RL 31 RX1 yX1_begin wsX1_begin) := goodIn_app (goodIn_of _ (by decide +kernel)) ggL_law_X1_begin
set_option maxRecDepth 20000 in
theorem ggL_law_X1_tag : GoodIn wsL_law wsX1_tag := goodIn_r _ [121, 21, 10, 25, 26, 2, 27, 85, 86, 87, 122, 82, 83, 84, 66, 67, 68, 69, 88, 89, 90, 91, 42, 92, 93, 94, 95, 96, 97, 98, 99, 100, 101, 102, 103, 104, 105, 106, 107, 12, 108, 109, 36, 70, 71, 72, 110, 111, 112, 113, 114, 115, 116, 117, 56, 57, 58, 59, 60, 174, 175, 176, 177, 178, 179, 180, 181, 182, 183, 184, 185, 186, 187, 188, 189, 190, 191, 192, 193] (by decide +kernel) (by decide +kernel)
set_option maxRecDepth 20000 in
theorem gL_law_X1_tag : GoodIn wsL_law (wsV RL 35 RX1 yX1_tag wsX1_tag) := goodIn_app (goodIn_of _ (by decide +kernel)) ggL_law_X1_tag
set_option maxRecDepth 20000 in
theorem ggL_law_X1_enter : GoodIn wsL_law wsX1_enter := goodIn_r _ [126, 13, 66, 67, 68, 2, 69, 21, 174, 175, 176, 177, 178, 179, 180] (by decide +kernel) (by decide +kernel)
set_option maxRecDepth 20000 in
theorem gL_law_X1_enter : GoodIn wsL_law (wsV RL 40 RX1 yX1_enter wsX1_enter) := goodIn_app (goodIn_of _ (by decide +kernel)) ggL_law_X1_enter
set_option maxRecDepth 20000 in
theorem ggL_law_X1_ticks : GoodIn wsL_law wsX1_ticks := goodIn_r _ [130, 41, 25, 26, 2, 27, 131, 132, 133, 134, 42, 21, 10, 13, 135, 136, 137, 138, 139, 12, 140, 141, 60, 53, 59, 142, 143, 144, 145, 100, 101, 98, 102, 146, 147, 148, 149, 96, 97, 99, 43, 56, 57, 58, 150, 151, 152, 153, 50, 51, 52, 54, 55, 154, 155, 156, 157, 158, 159, 160, 161, 162, 163, 164, 174, 175, 176, 177, 178, 179, 180, 181, 182, 183, 184, 185, 186, 187, 188, 189, 190, 191, 192, 193] (by decide +kernel) (by decide +kernel)
set_option maxRecDepth 20000 in
theorem gL_law_X1_ticks : GoodIn wsL_law (wsV RL 45 RX1 yX1_ticks wsX1_ticks) := goodIn_app (goodIn_of _ (by decide +kernel)) ggL_law_X1_ticks
set_option maxRecDepth 20000 in
theorem ggL_law_X1_of : GoodIn wsL_law wsX1_of := goodIn_r _ [168, 169, 10, 66, 67, 68, 2, 69, 21, 170, 171, 172, 173, 41, 42, 96, 97, 98, 99, 110, 111, 112, 113, 100, 101, 102, 70, 12, 71, 72, 36, 114, 115, 116, 117, 103, 104, 105, 106, 107, 108, 109, 174, 175, 176, 177, 178, 179, 180, 181, 182, 183, 184, 185, 186, 187, 188, 189, 190, 191, 192, 193] (by decide +kernel) (by decide +kernel)
set_option maxRecDepth 20000 in
theorem gL_law_X1_of : GoodIn wsL_law (wsV RL 50 RX1 yX1_of wsX1_of) := goodIn_app (goodIn_of _ (by decide +kernel)) ggL_law_X1_of
theorem dL_law_0 : decode cL_law 0 = .ok (.new 7, 3) := by decide +kernel
theorem dL_law_3 : decode cL_law 3 = .ok (.dup, 1) := by decide +kernel
theorem dL_law_4 : decode cL_law 4 = .ok (.invokespecial 9, 3) := by decide +kernel
theorem dL_law_7 : decode cL_law 7 = .ok (.astore_n 1, 1) := by decide +kernel
theorem dL_law_8 : decode cL_law 8 = .ok (.new 10, 3) := by decide +kernel
theorem dL_law_11 : decode cL_law 11 = .ok (.dup, 1) := by decide +kernel
theorem dL_law_12 : decode cL_law 12 = .ok (.invokespecial 12, 3) := by decide +kernel
theorem dL_law_15 : decode cL_law 15 = .ok (.astore_n 2, 1) := by decide +kernel
theorem dL_law_16 : decode cL_law 16 = .ok (.iconst 0, 1) := by decide +kernel
theorem dL_law_17 : decode cL_law 17 = .ok (.istore_n 3, 1) := by decide +kernel
theorem dL_law_18 : decode cL_law 18 = .ok (.iload_n 3, 1) := by decide +kernel
theorem dL_law_19 : decode cL_law 19 = .ok (.aload_n 0, 1) := by decide +kernel
theorem dL_law_20 : decode cL_law 20 = .ok (.arraylength, 1) := by decide +kernel
theorem dL_law_21 : decode cL_law 21 = .ok (.bipush 6, 2) := by decide +kernel
theorem dL_law_23 : decode cL_law 23 = .ok (.isub, 1) := by decide +kernel
theorem dL_law_24 : decode cL_law 24 = .ok (.if_icmp .gt 430, 3) := by decide +kernel
theorem dL_law_27 : decode cL_law 27 = .ok (.aload_n 0, 1) := by decide +kernel
theorem dL_law_28 : decode cL_law 28 = .ok (.iload_n 3, 1) := by decide +kernel
theorem dL_law_29 : decode cL_law 29 = .ok (.iaload, 1) := by decide +kernel
theorem dL_law_30 : decode cL_law 30 = .ok (.bipush 15, 2) := by decide +kernel
theorem dL_law_32 : decode cL_law 32 = .ok (.iand, 1) := by decide +kernel
theorem dL_law_33 : decode cL_law 33 = .ok (.tableswitch 415 0 11 #[63, 126, 159, 170, 181, 214, 247, 270, 293, 326, 359, 392], 63) := by decide +kernel
theorem dL_law_96 : decode cL_law 96 = .ok (.aload_n 1, 1) := by decide +kernel
theorem dL_law_97 : decode cL_law 97 = .ok (.aload_n 0, 1) := by decide +kernel
theorem dL_law_98 : decode cL_law 98 = .ok (.iload_n 3, 1) := by decide +kernel
theorem dL_law_99 : decode cL_law 99 = .ok (.iconst 1, 1) := by decide +kernel
theorem dL_law_100 : decode cL_law 100 = .ok (.iadd, 1) := by decide +kernel
theorem dL_law_101 : decode cL_law 101 = .ok (.iaload, 1) := by decide +kernel
theorem dL_law_102 : decode cL_law 102 = .ok (.aload_n 0, 1) := by decide +kernel
theorem dL_law_103 : decode cL_law 103 = .ok (.iload_n 3, 1) := by decide +kernel
theorem dL_law_104 : decode cL_law 104 = .ok (.iconst 2, 1) := by decide +kernel
theorem dL_law_105 : decode cL_law 105 = .ok (.iadd, 1) := by decide +kernel
theorem dL_law_106 : decode cL_law 106 = .ok (.iaload, 1) := by decide +kernel
theorem dL_law_107 : decode cL_law 107 = .ok (.aload_n 0, 1) := by decide +kernel
theorem dL_law_108 : decode cL_law 108 = .ok (.iload_n 3, 1) := by decide +kernel
theorem dL_law_109 : decode cL_law 109 = .ok (.iconst 3, 1) := by decide +kernel
theorem dL_law_110 : decode cL_law 110 = .ok (.iadd, 1) := by decide +kernel
theorem dL_law_111 : decode cL_law 111 = .ok (.iaload, 1) := by decide +kernel
theorem dL_law_112 : decode cL_law 112 = .ok (.aload_n 0, 1) := by decide +kernel
theorem dL_law_113 : decode cL_law 113 = .ok (.iload_n 3, 1) := by decide +kernel
theorem dL_law_114 : decode cL_law 114 = .ok (.iconst 4, 1) := by decide +kernel
theorem dL_law_115 : decode cL_law 115 = .ok (.iadd, 1) := by decide +kernel
theorem dL_law_116 : decode cL_law 116 = .ok (.iaload, 1) := by decide +kernel
theorem dL_law_117 : decode cL_law 117 = .ok (.aload_n 0, 1) := by decide +kernel
theorem dL_law_118 : decode cL_law 118 = .ok (.iload_n 3, 1) := by decide +kernel
theorem dL_law_119 : decode cL_law 119 = .ok (.iconst 5, 1) := by decide +kernel
theorem dL_law_120 : decode cL_law 120 = .ok (.iadd, 1) := by decide +kernel
theorem dL_law_121 : decode cL_law 121 = .ok (.iaload, 1) := by decide +kernel
theorem dL_law_122 : decode cL_law 122 = .ok (.invokevirtual 13, 3) := by decide +kernel
theorem dL_law_125 : decode cL_law 125 = .ok (.aload_n 2, 1) := by decide +kernel
theorem dL_law_126 : decode cL_law 126 = .ok (.aload_n 0, 1) := by decide +kernel
theorem dL_law_127 : decode cL_law 127 = .ok (.iload_n 3, 1) := by decide +kernel
theorem dL_law_128 : decode cL_law 128 = .ok (.iconst 1, 1) := by decide +kernel
theorem dL_law_129 : decode cL_law 129 = .ok (.iadd, 1) := by decide +kernel
theorem dL_law_130 : decode cL_law 130 = .ok (.iaload, 1) := by decide +kernel
theorem dL_law_131 : decode cL_law 131 = .ok (.aload_n 0, 1) := by decide +kernel
theorem dL_law_132 : decode cL_law 132 = .ok (.iload_n 3, 1) := by decide +kernel
theorem dL_law_133 : decode cL_law 133 = .ok (.iconst 2, 1) := by decide +kernel
theorem dL_law_134 : decode cL_law 134 = .ok (.iadd, 1) := by decide +kernel
theorem dL_law_135 : decode cL_law 135 = .ok (.iaload, 1) := by decide +kernel
theorem dL_law_136 : decode cL_law 136 = .ok (.aload_n 0, 1) := by decide +kernel
theorem dL_law_137 : decode cL_law 137 = .ok (.iload_n 3, 1) := by decide +kernel
theorem dL_law_138 : decode cL_law 138 = .ok (.iconst 3, 1) := by decide +kernel
theorem dL_law_139 : decode cL_law 139 = .ok (.iadd, 1) := by decide +kernel
theorem dL_law_140 : decode cL_law 140 = .ok (.iaload, 1) := by decide +kernel
theorem dL_law_141 : decode cL_law 141 = .ok (.aload_n 0, 1) := by decide +kernel
theorem dL_law_142 : decode cL_law 142 = .ok (.iload_n 3, 1) := by decide +kernel
theorem dL_law_143 : decode cL_law 143 = .ok (.iconst 4, 1) := by decide +kernel
theorem dL_law_144 : decode cL_law 144 = .ok (.iadd, 1) := by decide +kernel
theorem dL_law_145 : decode cL_law 145 = .ok (.iaload, 1) := by decide +kernel
theorem dL_law_146 : decode cL_law 146 = .ok (.aload_n 0, 1) := by decide +kernel
theorem dL_law_147 : decode cL_law 147 = .ok (.iload_n 3, 1) := by decide +kernel
theorem dL_law_148 : decode cL_law 148 = .ok (.iconst 5, 1) := by decide +kernel
theorem dL_law_149 : decode cL_law 149 = .ok (.iadd, 1) := by decide +kernel
theorem dL_law_150 : decode cL_law 150 = .ok (.iaload, 1) := by decide +kernel
theorem dL_law_151 : decode cL_law 151 = .ok (.invokevirtual 17, 3) := by decide +kernel
theorem dL_law_154 : decode cL_law 154 = .ok (.if_icmp .eq 294, 3) := by decide +kernel
theorem dL_law_157 : decode cL_law 157 = .ok (.iconst 0, 1) := by decide +kernel
theorem dL_law_158 : decode cL_law 158 = .ok (.ireturn, 1) := by decide +kernel
theorem dL_law_159 : decode cL_law 159 = .ok (.aload_n 1, 1) := by decide +kernel
theorem dL_law_160 : decode cL_law 160 = .ok (.aload_n 0, 1) := by decide +kernel
theorem dL_law_161 : decode cL_law 161 = .ok (.iload_n 3, 1) := by decide +kernel
theorem dL_law_162 : decode cL_law 162 = .ok (.iconst 1, 1) := by decide +kernel
theorem dL_law_163 : decode cL_law 163 = .ok (.iadd, 1) := by decide +kernel
theorem dL_law_164 : decode cL_law 164 = .ok (.iaload, 1) := by decide +kernel
theorem dL_law_165 : decode cL_law 165 = .ok (.aload_n 0, 1) := by decide +kernel
theorem dL_law_166 : decode cL_law 166 = .ok (.iload_n 3, 1) := by decide +kernel
theorem dL_law_167 : decode cL_law 167 = .ok (.iconst 2, 1) := by decide +kernel
theorem dL_law_168 : decode cL_law 168 = .ok (.iadd, 1) := by decide +kernel
theorem dL_law_169 : decode cL_law 169 = .ok (.iaload, 1) := by decide +kernel
theorem dL_law_170 : decode cL_law 170 = .ok (.invokevirtual 18, 3) := by decide +kernel
theorem dL_law_173 : decode cL_law 173 = .ok (.aload_n 2, 1) := by decide +kernel
theorem dL_law_174 : decode cL_law 174 = .ok (.aload_n 0, 1) := by decide +kernel
theorem dL_law_175 : decode cL_law 175 = .ok (.iload_n 3, 1) := by decide +kernel
theorem dL_law_176 : decode cL_law 176 = .ok (.iconst 1, 1) := by decide +kernel
theorem dL_law_177 : decode cL_law 177 = .ok (.iadd, 1) := by decide +kernel
theorem dL_law_178 : decode cL_law 178 = .ok (.iaload, 1) := by decide +kernel
theorem dL_law_179 : decode cL_law 179 = .ok (.aload_n 0, 1) := by decide +kernel
theorem dL_law_180 : decode cL_law 180 = .ok (.iload_n 3, 1) := by decide +kernel
theorem dL_law_181 : decode cL_law 181 = .ok (.iconst 2, 1) := by decide +kernel
theorem dL_law_182 : decode cL_law 182 = .ok (.iadd, 1) := by decide +kernel
theorem dL_law_183 : decode cL_law 183 = .ok (.iaload, 1) := by decide +kernel
theorem dL_law_184 : decode cL_law 184 = .ok (.invokevirtual 22, 3) := by decide +kernel
theorem dL_law_187 : decode cL_law 187 = .ok (.if_icmp .eq 261, 3) := by decide +kernel
theorem dL_law_190 : decode cL_law 190 = .ok (.iconst 0, 1) := by decide +kernel
theorem dL_law_191 : decode cL_law 191 = .ok (.ireturn, 1) := by decide +kernel
theorem dL_law_192 : decode cL_law 192 = .ok (.aload_n 1, 1) := by decide +kernel
theorem dL_law_193 : decode cL_law 193 = .ok (.invokevirtual 23, 3) := by decide +kernel
theorem dL_law_196 : decode cL_law 196 = .ok (.aload_n 2, 1) := by decide +kernel
theorem dL_law_197 : decode cL_law 197 = .ok (.invokevirtual 26, 3) := by decide +kernel
theorem dL_law_200 : decode cL_law 200 = .ok (.goto 248, 3) := by decide +kernel
theorem dL_law_203 : decode cL_law 203 = .ok (.aload_n 1, 1) := by decide +kernel
theorem dL_law_204 : decode cL_law 204 = .ok (.invokevirtual 27, 3) := by decide +kernel
theorem dL_law_207 : decode cL_law 207 = .ok (.aload_n 2, 1) := by decide +kernel
theorem dL_law_208 : decode cL_law 208 = .ok (.invokevirtual 30, 3) := by decide +kernel
theorem dL_law_211 : decode cL_law 211 = .ok (.goto 237, 3) := by decide +kernel
theorem dL_law_214 : decode cL_law 214 = .ok (.aload_n 1, 1) := by decide +kernel
theorem dL_law_215 : decode cL_law 215 = .ok (.aload_n 0, 1) := by decide +kernel
theorem dL_law_216 : decode cL_law 216 = .ok (.iload_n 3, 1) := by decide +kernel
theorem dL_law_217 : decode cL_law 217 = .ok (.iconst 1, 1) := by decide +kernel
theorem dL_law_218 : decode cL_law 218 = .ok (.iadd, 1) := by decide +kernel
theorem dL_law_219 : decode cL_law 219 = .ok (.iaload, 1) := by decide +kernel
theorem dL_law_220 : decode cL_law 220 = .ok (.aload_n 0, 1) := by decide +kernel
theorem dL_law_221 : decode cL_law 221 = .ok (.iload_n 3, 1) := by decide +kernel
theorem dL_law_222 : decode cL_law 222 = .ok (.iconst 2, 1) := by decide +kernel
theorem dL_law_223 : decode cL_law 223 = .ok (.iadd, 1) := by decide +kernel
theorem dL_law_224 : decode cL_law 224 = .ok (.iaload, 1) := by decide +kernel
theorem dL_law_225 : decode cL_law 225 = .ok (.invokevirtual 31, 3) := by decide +kernel
theorem dL_law_228 : decode cL_law 228 = .ok (.aload_n 2, 1) := by decide +kernel
theorem dL_law_229 : decode cL_law 229 = .ok (.aload_n 0, 1) := by decide +kernel
theorem dL_law_230 : decode cL_law 230 = .ok (.iload_n 3, 1) := by decide +kernel
theorem dL_law_231 : decode cL_law 231 = .ok (.iconst 1, 1) := by decide +kernel
theorem dL_law_232 : decode cL_law 232 = .ok (.iadd, 1) := by decide +kernel
theorem dL_law_233 : decode cL_law 233 = .ok (.iaload, 1) := by decide +kernel
theorem dL_law_234 : decode cL_law 234 = .ok (.aload_n 0, 1) := by decide +kernel
theorem dL_law_235 : decode cL_law 235 = .ok (.iload_n 3, 1) := by decide +kernel
theorem dL_law_236 : decode cL_law 236 = .ok (.iconst 2, 1) := by decide +kernel
theorem dL_law_237 : decode cL_law 237 = .ok (.iadd, 1) := by decide +kernel
theorem dL_law_238 : decode cL_law 238 = .ok (.iaload, 1) := by decide +kernel
theorem dL_law_239 : decode cL_law 239 = .ok (.invokevirtual 34, 3) := by decide +kernel
theorem dL_law_242 : decode cL_law 242 = .ok (.if_icmp .eq 206, 3) := by decide +kernel
theorem dL_law_245 : decode cL_law 245 = .ok (.iconst 0, 1) := by decide +kernel
theorem dL_law_246 : decode cL_law 246 = .ok (.ireturn, 1) := by decide +kernel
theorem dL_law_247 : decode cL_law 247 = .ok (.aload_n 1, 1) := by decide +kernel
theorem dL_law_248 : decode cL_law 248 = .ok (.aload_n 0, 1) := by decide +kernel
theorem dL_law_249 : decode cL_law 249 = .ok (.iload_n 3, 1) := by decide +kernel
theorem dL_law_250 : decode cL_law 250 = .ok (.iconst 1, 1) := by decide +kernel
theorem dL_law_251 : decode cL_law 251 = .ok (.iadd, 1) := by decide +kernel
theorem dL_law_252 : decode cL_law 252 = .ok (.iaload, 1) := by decide +kernel
theorem dL_law_253 : decode cL_law 253 = .ok (.aload_n 0, 1) := by decide +kernel
theorem dL_law_254 : decode cL_law 254 = .ok (.iload_n 3, 1) := by decide +kernel
theorem dL_law_255 : decode cL_law 255 = .ok (.iconst 2, 1) := by decide +kernel
theorem dL_law_256 : decode cL_law 256 = .ok (.iadd, 1) := by decide +kernel
theorem dL_law_257 : decode cL_law 257 = .ok (.iaload, 1) := by decide +kernel
theorem dL_law_258 : decode cL_law 258 = .ok (.invokevirtual 35, 3) := by decide +kernel
theorem dL_law_261 : decode cL_law 261 = .ok (.aload_n 2, 1) := by decide +kernel
theorem dL_law_262 : decode cL_law 262 = .ok (.aload_n 0, 1) := by decide +kernel
theorem dL_law_263 : decode cL_law 263 = .ok (.iload_n 3, 1) := by decide +kernel
theorem dL_law_264 : decode cL_law 264 = .ok (.iconst 1, 1) := by decide +kernel
theorem dL_law_265 : decode cL_law 265 = .ok (.iadd, 1) := by decide +kernel
theorem dL_law_266 : decode cL_law 266 = .ok (.iaload, 1) := by decide +kernel
theorem dL_law_267 : decode cL_law 267 = .ok (.aload_n 0, 1) := by decide +kernel
theorem dL_law_268 : decode cL_law 268 = .ok (.iload_n 3, 1) := by decide +kernel
theorem dL_law_269 : decode cL_law 269 = .ok (.iconst 2, 1) := by decide +kernel
theorem dL_law_270 : decode cL_law 270 = .ok (.iadd, 1) := by decide +kernel
theorem dL_law_271 : decode cL_law 271 = .ok (.iaload, 1) := by decide +kernel
theorem dL_law_272 : decode cL_law 272 = .ok (.invokevirtual 39, 3) := by decide +kernel
theorem dL_law_275 : decode cL_law 275 = .ok (.if_icmp .eq 173, 3) := by decide +kernel
theorem dL_law_278 : decode cL_law 278 = .ok (.iconst 0, 1) := by decide +kernel
theorem dL_law_279 : decode cL_law 279 = .ok (.ireturn, 1) := by decide +kernel
theorem dL_law_280 : decode cL_law 280 = .ok (.aload_n 1, 1) := by decide +kernel
theorem dL_law_281 : decode cL_law 281 = .ok (.aload_n 0, 1) := by decide +kernel
theorem dL_law_282 : decode cL_law 282 = .ok (.iload_n 3, 1) := by decide +kernel
theorem dL_law_283 : decode cL_law 283 = .ok (.iconst 1, 1) := by decide +kernel
theorem dL_law_284 : decode cL_law 284 = .ok (.iadd, 1) := by decide +kernel
theorem dL_law_285 : decode cL_law 285 = .ok (.iaload, 1) := by decide +kernel
theorem dL_law_286 : decode cL_law 286 = .ok (.invokevirtual 40, 3) := by decide +kernel
theorem dL_law_289 : decode cL_law 289 = .ok (.aload_n 2, 1) := by decide +kernel
theorem dL_law_290 : decode cL_law 290 = .ok (.aload_n 0, 1) := by decide +kernel
theorem dL_law_291 : decode cL_law 291 = .ok (.iload_n 3, 1) := by decide +kernel
theorem dL_law_292 : decode cL_law 292 = .ok (.iconst 1, 1) := by decide +kernel
theorem dL_law_293 : decode cL_law 293 = .ok (.iadd, 1) := by decide +kernel
theorem dL_law_294 : decode cL_law 294 = .ok (.iaload, 1) := by decide +kernel
theorem dL_law_295 : decode cL_law 295 = .ok (.invokevirtual 44, 3) := by decide +kernel
theorem dL_law_298 : decode cL_law 298 = .ok (.if_icmp .eq 150, 3) := by decide +kernel
theorem dL_law_301 : decode cL_law 301 = .ok (.iconst 0, 1) := by decide +kernel
theorem dL_law_302 : decode cL_law 302 = .ok (.ireturn, 1) := by decide +kernel
theorem dL_law_303 : decode cL_law 303 = .ok (.aload_n 1, 1) := by decide +kernel
theorem dL_law_304 : decode cL_law 304 = .ok (.aload_n 0, 1) := by decide +kernel
theorem dL_law_305 : decode cL_law 305 = .ok (.iload_n 3, 1) := by decide +kernel
theorem dL_law_306 : decode cL_law 306 = .ok (.iconst 1, 1) := by decide +kernel
theorem dL_law_307 : decode cL_law 307 = .ok (.iadd, 1) := by decide +kernel
theorem dL_law_308 : decode cL_law 308 = .ok (.iaload, 1) := by decide +kernel
theorem dL_law_309 : decode cL_law 309 = .ok (.invokevirtual 45, 3) := by decide +kernel
theorem dL_law_312 : decode cL_law 312 = .ok (.aload_n 2, 1) := by decide +kernel
theorem dL_law_313 : decode cL_law 313 = .ok (.aload_n 0, 1) := by decide +kernel
theorem dL_law_314 : decode cL_law 314 = .ok (.iload_n 3, 1) := by decide +kernel
theorem dL_law_315 : decode cL_law 315 = .ok (.iconst 1, 1) := by decide +kernel
theorem dL_law_316 : decode cL_law 316 = .ok (.iadd, 1) := by decide +kernel
theorem dL_law_317 : decode cL_law 317 = .ok (.iaload, 1) := by decide +kernel
theorem dL_law_318 : decode cL_law 318 = .ok (.invokevirtual 49, 3) := by decide +kernel
theorem dL_law_321 : decode cL_law 321 = .ok (.if_icmp .eq 127, 3) := by decide +kernel
theorem dL_law_324 : decode cL_law 324 = .ok (.iconst 0, 1) := by decide +kernel
theorem dL_law_325 : decode cL_law 325 = .ok (.ireturn, 1) := by decide +kernel
theorem dL_law_326 : decode cL_law 326 = .ok (.aload_n 1, 1) := by decide +kernel
theorem dL_law_327 : decode cL_law 327 = .ok (.aload_n 0, 1) := by decide +kernel
theorem dL_law_328 : decode cL_law 328 = .ok (.iload_n 3, 1) := by decide +kernel
theorem dL_law_329 : decode cL_law 329 = .ok (.iconst 1, 1) := by decide +kernel
theorem dL_law_330 : decode cL_law 330 = .ok (.iadd, 1) := by decide +kernel
theorem dL_law_331 : decode cL_law 331 = .ok (.iaload, 1) := by decide +kernel
theorem dL_law_332 : decode cL_law 332 = .ok (.aload_n 0, 1) := by decide +kernel
theorem dL_law_333 : decode cL_law 333 = .ok (.iload_n 3, 1) := by decide +kernel
theorem dL_law_334 : decode cL_law 334 = .ok (.iconst 2, 1) := by decide +kernel
theorem dL_law_335 : decode cL_law 335 = .ok (.iadd, 1) := by decide +kernel
theorem dL_law_336 : decode cL_law 336 = .ok (.iaload, 1) := by decide +kernel
theorem dL_law_337 : decode cL_law 337 = .ok (.invokevirtual 50, 3) := by decide +kernel
theorem dL_law_340 : decode cL_law 340 = .ok (.aload_n 2, 1) := by decide +kernel
theorem dL_law_341 : decode cL_law 341 = .ok (.aload_n 0, 1) := by decide +kernel
theorem dL_law_342 : decode cL_law 342 = .ok (.iload_n 3, 1) := by decide +kernel
theorem dL_law_343 : decode cL_law 343 = .ok (.iconst 1, 1) := by decide +kernel
theorem dL_law_344 : decode cL_law 344 = .ok (.iadd, 1) := by decide +kernel
theorem dL_law_345 : decode cL_law 345 = .ok (.iaload, 1) := by decide +kernel
theorem dL_law_346 : decode cL_law 346 = .ok (.aload_n 0, 1) := by decide +kernel
theorem dL_law_347 : decode cL_law 347 = .ok (.iload_n 3, 1) := by decide +kernel
theorem dL_law_348 : decode cL_law 348 = .ok (.iconst 2, 1) := by decide +kernel
theorem dL_law_349 : decode cL_law 349 = .ok (.iadd, 1) := by decide +kernel
theorem dL_law_350 : decode cL_law 350 = .ok (.iaload, 1) := by decide +kernel
theorem dL_law_351 : decode cL_law 351 = .ok (.invokevirtual 53, 3) := by decide +kernel
theorem dL_law_354 : decode cL_law 354 = .ok (.if_icmp .eq 94, 3) := by decide +kernel
theorem dL_law_357 : decode cL_law 357 = .ok (.iconst 0, 1) := by decide +kernel
theorem dL_law_358 : decode cL_law 358 = .ok (.ireturn, 1) := by decide +kernel
theorem dL_law_359 : decode cL_law 359 = .ok (.aload_n 1, 1) := by decide +kernel
theorem dL_law_360 : decode cL_law 360 = .ok (.aload_n 0, 1) := by decide +kernel
theorem dL_law_361 : decode cL_law 361 = .ok (.iload_n 3, 1) := by decide +kernel
theorem dL_law_362 : decode cL_law 362 = .ok (.iconst 1, 1) := by decide +kernel
theorem dL_law_363 : decode cL_law 363 = .ok (.iadd, 1) := by decide +kernel
theorem dL_law_364 : decode cL_law 364 = .ok (.iaload, 1) := by decide +kernel
theorem dL_law_365 : decode cL_law 365 = .ok (.aload_n 0, 1) := by decide +kernel
theorem dL_law_366 : decode cL_law 366 = .ok (.iload_n 3, 1) := by decide +kernel
theorem dL_law_367 : decode cL_law 367 = .ok (.iconst 2, 1) := by decide +kernel
theorem dL_law_368 : decode cL_law 368 = .ok (.iadd, 1) := by decide +kernel
theorem dL_law_369 : decode cL_law 369 = .ok (.iaload, 1) := by decide +kernel
theorem dL_law_370 : decode cL_law 370 = .ok (.invokevirtual 54, 3) := by decide +kernel
theorem dL_law_373 : decode cL_law 373 = .ok (.aload_n 2, 1) := by decide +kernel
theorem dL_law_374 : decode cL_law 374 = .ok (.aload_n 0, 1) := by decide +kernel
theorem dL_law_375 : decode cL_law 375 = .ok (.iload_n 3, 1) := by decide +kernel
theorem dL_law_376 : decode cL_law 376 = .ok (.iconst 1, 1) := by decide +kernel
theorem dL_law_377 : decode cL_law 377 = .ok (.iadd, 1) := by decide +kernel
theorem dL_law_378 : decode cL_law 378 = .ok (.iaload, 1) := by decide +kernel
theorem dL_law_379 : decode cL_law 379 = .ok (.aload_n 0, 1) := by decide +kernel
theorem dL_law_380 : decode cL_law 380 = .ok (.iload_n 3, 1) := by decide +kernel
theorem dL_law_381 : decode cL_law 381 = .ok (.iconst 2, 1) := by decide +kernel
theorem dL_law_382 : decode cL_law 382 = .ok (.iadd, 1) := by decide +kernel
theorem dL_law_383 : decode cL_law 383 = .ok (.iaload, 1) := by decide +kernel
theorem dL_law_384 : decode cL_law 384 = .ok (.invokevirtual 57, 3) := by decide +kernel
theorem dL_law_387 : decode cL_law 387 = .ok (.if_icmp .eq 61, 3) := by decide +kernel
theorem dL_law_390 : decode cL_law 390 = .ok (.iconst 0, 1) := by decide +kernel
theorem dL_law_391 : decode cL_law 391 = .ok (.ireturn, 1) := by decide +kernel
theorem dL_law_392 : decode cL_law 392 = .ok (.aload_n 1, 1) := by decide +kernel
theorem dL_law_393 : decode cL_law 393 = .ok (.aload_n 0, 1) := by decide +kernel
theorem dL_law_394 : decode cL_law 394 = .ok (.iload_n 3, 1) := by decide +kernel
theorem dL_law_395 : decode cL_law 395 = .ok (.iconst 1, 1) := by decide +kernel
theorem dL_law_396 : decode cL_law 396 = .ok (.iadd, 1) := by decide +kernel
theorem dL_law_397 : decode cL_law 397 = .ok (.iaload, 1) := by decide +kernel
theorem dL_law_398 : decode cL_law 398 = .ok (.aload_n 0, 1) := by decide +kernel
theorem dL_law_399 : decode cL_law 399 = .ok (.iload_n 3, 1) := by decide +kernel
theorem dL_law_400 : decode cL_law 400 = .ok (.iconst 2, 1) := by decide +kernel
theorem dL_law_401 : decode cL_law 401 = .ok (.iadd, 1) := by decide +kernel
theorem dL_law_402 : decode cL_law 402 = .ok (.iaload, 1) := by decide +kernel
theorem dL_law_403 : decode cL_law 403 = .ok (.invokevirtual 58, 3) := by decide +kernel
theorem dL_law_406 : decode cL_law 406 = .ok (.aload_n 2, 1) := by decide +kernel
theorem dL_law_407 : decode cL_law 407 = .ok (.aload_n 0, 1) := by decide +kernel
theorem dL_law_408 : decode cL_law 408 = .ok (.iload_n 3, 1) := by decide +kernel
theorem dL_law_409 : decode cL_law 409 = .ok (.iconst 1, 1) := by decide +kernel
theorem dL_law_410 : decode cL_law 410 = .ok (.iadd, 1) := by decide +kernel
theorem dL_law_411 : decode cL_law 411 = .ok (.iaload, 1) := by decide +kernel
theorem dL_law_412 : decode cL_law 412 = .ok (.aload_n 0, 1) := by decide +kernel
theorem dL_law_413 : decode cL_law 413 = .ok (.iload_n 3, 1) := by decide +kernel
theorem dL_law_414 : decode cL_law 414 = .ok (.iconst 2, 1) := by decide +kernel
theorem dL_law_415 : decode cL_law 415 = .ok (.iadd, 1) := by decide +kernel
theorem dL_law_416 : decode cL_law 416 = .ok (.iaload, 1) := by decide +kernel
theorem dL_law_417 : decode cL_law 417 = .ok (.invokevirtual 61, 3) := by decide +kernel
theorem dL_law_420 : decode cL_law 420 = .ok (.if_icmp .eq 28, 3) := by decide +kernel
theorem dL_law_423 : decode cL_law 423 = .ok (.iconst 0, 1) := by decide +kernel
theorem dL_law_424 : decode cL_law 424 = .ok (.ireturn, 1) := by decide +kernel
theorem dL_law_425 : decode cL_law 425 = .ok (.aload_n 1, 1) := by decide +kernel
theorem dL_law_426 : decode cL_law 426 = .ok (.aload_n 0, 1) := by decide +kernel
theorem dL_law_427 : decode cL_law 427 = .ok (.iload_n 3, 1) := by decide +kernel
theorem dL_law_428 : decode cL_law 428 = .ok (.iconst 1, 1) := by decide +kernel
theorem dL_law_429 : decode cL_law 429 = .ok (.iadd, 1) := by decide +kernel
theorem dL_law_430 : decode cL_law 430 = .ok (.iaload, 1) := by decide +kernel
theorem dL_law_431 : decode cL_law 431 = .ok (.invokevirtual 62, 3) := by decide +kernel
theorem dL_law_434 : decode cL_law 434 = .ok (.aload_n 2, 1) := by decide +kernel
theorem dL_law_435 : decode cL_law 435 = .ok (.aload_n 0, 1) := by decide +kernel
theorem dL_law_436 : decode cL_law 436 = .ok (.iload_n 3, 1) := by decide +kernel
theorem dL_law_437 : decode cL_law 437 = .ok (.iconst 1, 1) := by decide +kernel
theorem dL_law_438 : decode cL_law 438 = .ok (.iadd, 1) := by decide +kernel
theorem dL_law_439 : decode cL_law 439 = .ok (.iaload, 1) := by decide +kernel
theorem dL_law_440 : decode cL_law 440 = .ok (.invokevirtual 65, 3) := by decide +kernel
theorem dL_law_443 : decode cL_law 443 = .ok (.if_icmp .eq 5, 3) := by decide +kernel
theorem dL_law_446 : decode cL_law 446 = .ok (.iconst 0, 1) := by decide +kernel
theorem dL_law_447 : decode cL_law 447 = .ok (.ireturn, 1) := by decide +kernel
theorem dL_law_448 : decode cL_law 448 = .ok (.iinc 3 6, 3) := by decide +kernel
theorem dL_law_451 : decode cL_law 451 = .ok (.goto (-433), 3) := by decide +kernel
theorem dL_law_454 : decode cL_law 454 = .ok (.iconst 1, 1) := by decide +kernel
theorem dL_law_455 : decode cL_law 455 = .ok (.ireturn, 1) := by decide +kernel
end
section
/-! names of the reference, as the printed ones (by a program, out of JAVAP.txt) -/
def RX3 : String := "MoverHallModel"
def TX3 : u_T := fun k => match k with
  | 0 => ("MoverHallModel", "thrown", "I", false)
  | 1 => ("MoverHallModel", "sectors", "I", false)
  | 2 => ("MoverHallModel", "planFloors", "[I", true)
  | 3 => ("MoverHallModel", "planCeilings", "[I", true)
  | 4 => ("MoverHallModel", "lights", "[I", true)
  | 5 => ("MoverHallModel", "kinds", "[I", true)
  | 6 => ("MoverHallModel", "tags", "[I", true)
  | 7 => ("MoverHallModel", "beside", "[Z", true)
  | 8 => ("MoverHallModel", "pairs", "I", false)
  | 9 => ("MoverHallModel", "floors", "[I", true)
  | 10 => ("MoverHallModel", "ceilings", "[I", true)
  | 11 => ("MoverHallModel", "movers", "[I", true)
  | 12 => ("MoverHallModel", "ways", "[I", true)
  | 13 => ("MoverHallModel", "waits", "[I", true)
  | 14 => ("MoverHallModel", "ends", "[I", true)
  | 15 => ("MoverHallModel", "homes", "[I", true)
  | 16 => ("MoverHallModel", "time", "I", false)
  | 17 => ("MoverHallModel", "guest", "I", false)
  | _ => ("MoverHallModel", "blocked", "I", false)
def tyX3 : Nat → FieldType := fun k => match k with
  | 0 => .int
  | 1 => .int
  | 2 => .array .int
  | 3 => .array .int
  | 4 => .array .int
  | 5 => .array .int
  | 6 => .array .int
  | 7 => .array .boolean
  | 8 => .int
  | 9 => .array .int
  | 10 => .array .int
  | 11 => .array .int
  | 12 => .array .int
  | 13 => .array .int
  | 14 => .array .int
  | 15 => .array .int
  | 16 => .int
  | 17 => .int
  | _ => .int
abbrev wsX30 : List Cond := u_ws RX3 TX3 19
theorem nmX3 : ∀ a, a < 19 → ∀ b, b < 19 → a ≠ b → (TX3 a).2.1 ≠ (TX3 b).2.1 := by decide +kernel
theorem tyX3_ok : ∀ k, k < 19 → parseFieldDescriptor (TX3 k).2.2.1 = some (tyX3 k) := by decide +kernel
abbrev cX3_init : ByteArray := prog_4_method_1_code
def yX3_init : MethodName := ⟨RX3, "<init>", "()V"⟩
abbrev cX3_isSector : ByteArray := prog_4_method_3_code
def yX3_isSector : MethodName := ⟨RX3, "isSector", "(I)Z"⟩
abbrev cX3_sector : ByteArray := prog_4_method_4_code
def yX3_sector : MethodName := ⟨RX3, "sector", "(IIIII)I"⟩
abbrev cX3_join : ByteArray := prog_4_method_5_code
def yX3_join : MethodName := ⟨RX3, "join", "(II)Z"⟩
abbrev cX3_reset : ByteArray := prog_4_method_6_code
def yX3_reset : MethodName := ⟨RX3, "reset", "()V"⟩
abbrev cX3_clear : ByteArray := prog_4_method_7_code
def yX3_clear : MethodName := ⟨RX3, "clear", "()V"⟩
abbrev cX3_lowFloor : ByteArray := prog_4_method_8_code
def yX3_lowFloor : MethodName := ⟨RX3, "lowFloor", "(I)I"⟩
abbrev cX3_highFloor : ByteArray := prog_4_method_9_code
def yX3_highFloor : MethodName := ⟨RX3, "highFloor", "(I)I"⟩
abbrev cX3_lowCeiling : ByteArray := prog_4_method_10_code
def yX3_lowCeiling : MethodName := ⟨RX3, "lowCeiling", "(I)I"⟩
abbrev cX3_begin : ByteArray := prog_4_method_11_code
def yX3_begin : MethodName := ⟨RX3, "begin", "(II)Z"⟩
abbrev cX3_tag : ByteArray := prog_4_method_12_code
def yX3_tag : MethodName := ⟨RX3, "tag", "(II)I"⟩
abbrev cX3_enter : ByteArray := prog_4_method_13_code
def yX3_enter : MethodName := ⟨RX3, "enter", "(I)Z"⟩
abbrev cX3_end : ByteArray := prog_4_method_14_code
def yX3_end : MethodName := ⟨RX3, "end", "(I)V"⟩
abbrev cX3_await : ByteArray := prog_4_method_15_code
def yX3_await : MethodName := ⟨RX3, "await", "(II)V"⟩
abbrev cX3_stepDoor : ByteArray := prog_4_method_16_code
def yX3_stepDoor : MethodName := ⟨RX3, "stepDoor", "(I)V"⟩
abbrev cX3_rise : ByteArray := prog_4_method_17_code
def yX3_rise : MethodName := ⟨RX3, "rise", "(III)V"⟩
abbrev cX3_step : ByteArray := prog_4_method_18_code
def yX3_step : MethodName := ⟨RX3, "step", "(I)V"⟩
abbrev cX3_ticks : ByteArray := prog_4_method_19_code
def yX3_ticks : MethodName := ⟨RX3, "ticks", "(I)I"⟩
abbrev cX3_many : ByteArray := prog_4_method_20_code
def yX3_many : MethodName := ⟨RX3, "many", "()I"⟩
abbrev cX3_lightOf : ByteArray := prog_4_method_21_code
def yX3_lightOf : MethodName := ⟨RX3, "lightOf", "(I)I"⟩
abbrev cX3_of : ByteArray := prog_4_method_22_code
def yX3_of : MethodName := ⟨RX3, "of", "(II)I"⟩
abbrev cX3_are : ByteArray := prog_4_method_23_code
def yX3_are : MethodName := ⟨RX3, "are", "(II)Z"⟩
abbrev cX3_open : ByteArray := prog_4_method_24_code
def yX3_open : MethodName := ⟨RX3, "open", "(II)Z"⟩
abbrev cX3_look : ByteArray := prog_4_method_25_code
def yX3_look : MethodName := ⟨RX3, "look", "(I)I"⟩
/-- the words of all its methods -/
def wsX3 : List Cond := [Cond.fieldLink RX3 7 "MoverHallModel" "planFloors" "[I", Cond.fieldLink RX3 13 "MoverHallModel" "planCeilings" "[I", Cond.fieldLink RX3 16 "MoverHallModel" "lights" "[I", Cond.fieldLink RX3 19 "MoverHallModel" "kinds" "[I", Cond.fieldLink RX3 22 "MoverHallModel" "tags" "[I", Cond.fieldLink RX3 25 "MoverHallModel" "beside" "[Z", Cond.fieldLink RX3 29 "MoverHallModel" "floors" "[I", Cond.fieldLink RX3 32 "MoverHallModel" "ceilings" "[I", Cond.fieldLink RX3 35 "MoverHallModel" "movers" "[I", Cond.fieldLink RX3 38 "MoverHallModel" "ways" "[I", Cond.fieldLink RX3 41 "MoverHallModel" "waits" "[I", Cond.fieldLink RX3 44 "MoverHallModel" "ends" "[I", Cond.fieldLink RX3 47 "MoverHallModel" "homes" "[I", Cond.fieldLink RX3 50 "MoverHallModel" "guest" "I", Cond.fieldLink RX3 57 "MoverHallModel" "sectors" "I", Cond.fieldLink RX3 54 "MoverHallModel" "thrown" "I", Cond.methodLink RX3 60 yX3_reset, Cond.instanceMethod yX3_reset, Cond.selects RX3 yX3_reset yX3_reset, Cond.code yX3_reset cX3_reset 2 none, Cond.methodLink RX3 63 yX3_isSector, Cond.instanceMethod yX3_isSector, Cond.selects RX3 yX3_isSector yX3_isSector, Cond.code yX3_isSector cX3_isSector 2 (some .boolean), Cond.fieldLink RX3 67 "MoverHallModel" "pairs" "I", Cond.fieldLink RX3 70 "MoverHallModel" "time" "I", Cond.fieldLink RX3 73 "MoverHallModel" "blocked" "I", Cond.constant RX3 76 100000, Cond.methodLink RX3 77 yX3_lowCeiling, Cond.instanceMethod yX3_lowCeiling, Cond.selects RX3 yX3_lowCeiling yX3_lowCeiling, Cond.code yX3_lowCeiling cX3_lowCeiling 4 (some .int), Cond.methodLink RX3 81 yX3_highFloor, Cond.instanceMethod yX3_highFloor, Cond.selects RX3 yX3_highFloor yX3_highFloor, Cond.code yX3_highFloor cX3_highFloor 4 (some .int), Cond.methodLink RX3 84 yX3_lowFloor, Cond.instanceMethod yX3_lowFloor, Cond.selects RX3 yX3_lowFloor yX3_lowFloor, Cond.code yX3_lowFloor cX3_lowFloor 4 (some .int), Cond.methodLink RX3 87 yX3_begin, Cond.instanceMethod yX3_begin, Cond.selects RX3 yX3_begin yX3_begin, Cond.code yX3_begin cX3_begin 5 (some .boolean), Cond.methodLink RX3 91 yX3_await, Cond.instanceMethod yX3_await, Cond.selects RX3 yX3_await yX3_await, Cond.code yX3_await cX3_await 3 none, Cond.methodLink RX3 95 yX3_end, Cond.instanceMethod yX3_end, Cond.selects RX3 yX3_end yX3_end, Cond.code yX3_end cX3_end 2 none, Cond.methodLink RX3 99 yX3_stepDoor, Cond.instanceMethod yX3_stepDoor, Cond.selects RX3 yX3_stepDoor yX3_stepDoor, Cond.code yX3_stepDoor cX3_stepDoor 3 none, Cond.methodLink RX3 102 yX3_rise, Cond.instanceMethod yX3_rise, Cond.selects RX3 yX3_rise yX3_rise, Cond.code yX3_rise cX3_rise 5 none, Cond.methodLink RX3 106 yX3_step, Cond.instanceMethod yX3_step, Cond.selects RX3 yX3_step yX3_step, Cond.code yX3_step cX3_step 2 none, Cond.methodLink RX3 109 yX3_many, Cond.instanceMethod yX3_many, Cond.selects RX3 yX3_many yX3_many, Cond.code yX3_many cX3_many 3 (some .int), Cond.methodLink RX3 113 yX3_lightOf, Cond.instanceMethod yX3_lightOf, Cond.selects RX3 yX3_lightOf yX3_lightOf, Cond.code yX3_lightOf cX3_lightOf 4 (some .int), Cond.methodLink RX3 116 yX3_are, Cond.instanceMethod yX3_are, Cond.selects RX3 yX3_are yX3_are, Cond.code yX3_are cX3_are 3 (some .boolean), Cond.initialized RX3, Cond.methodLink RX3 1 objectInit, Cond.instanceMethod objectInit, Cond.code objectInit ⟨#[0xb1]⟩ 1 none, Cond.arrayClass .int, Cond.arrayClass .boolean] ++ wsX30
def wsX3_init : List Cond := .code yX3_init cX3_init 1 none :: wsX3
def wsX3_isSector : List Cond := .code yX3_isSector cX3_isSector 2 (some .boolean) :: wsX3
def wsX3_sector : List Cond := .code yX3_sector cX3_sector 7 (some .int) :: wsX3
def wsX3_join : List Cond := .code yX3_join cX3_join 3 (some .boolean) :: wsX3
def wsX3_reset : List Cond := .code yX3_reset cX3_reset 2 none :: wsX3
def wsX3_clear : List Cond := .code yX3_clear cX3_clear 2 none :: wsX3
def wsX3_lowFloor : List Cond := .code yX3_lowFloor cX3_lowFloor 4 (some .int) :: wsX3
def wsX3_highFloor : List Cond := .code yX3_highFloor cX3_highFloor 4 (some .int) :: wsX3
def wsX3_lowCeiling : List Cond := .code yX3_lowCeiling cX3_lowCeiling 4 (some .int) :: wsX3
def wsX3_begin : List Cond := .code yX3_begin cX3_begin 5 (some .boolean) :: wsX3
def wsX3_tag : List Cond := .code yX3_tag cX3_tag 5 (some .int) :: wsX3
def wsX3_enter : List Cond := .code yX3_enter cX3_enter 2 (some .boolean) :: wsX3
def wsX3_end : List Cond := .code yX3_end cX3_end 2 none :: wsX3
def wsX3_await : List Cond := .code yX3_await cX3_await 3 none :: wsX3
def wsX3_stepDoor : List Cond := .code yX3_stepDoor cX3_stepDoor 3 none :: wsX3
def wsX3_rise : List Cond := .code yX3_rise cX3_rise 5 none :: wsX3
def wsX3_step : List Cond := .code yX3_step cX3_step 2 none :: wsX3
def wsX3_ticks : List Cond := .code yX3_ticks cX3_ticks 4 (some .int) :: wsX3
def wsX3_many : List Cond := .code yX3_many cX3_many 3 (some .int) :: wsX3
def wsX3_lightOf : List Cond := .code yX3_lightOf cX3_lightOf 4 (some .int) :: wsX3
def wsX3_of : List Cond := .code yX3_of cX3_of 3 (some .int) :: wsX3
def wsX3_are : List Cond := .code yX3_are cX3_are 3 (some .boolean) :: wsX3
def wsX3_open : List Cond := .code yX3_open cX3_open 5 (some .boolean) :: wsX3
def wsX3_look : List Cond := .code yX3_look cX3_look 2 (some .int) :: wsX3
theorem inX3 : ∀ w ∈ wsX30, w ∈ wsX3 := fun _ h => List.mem_append_right _ h
theorem x3_good : wsX3.all goodWord = true := by decide +kernel
/-- a callee's words among a caller's: all stand in the one list -/
theorem x3_in {a c : Cond} {idx : Nat} {y : MethodName} (hl : Cond.methodLink RX3 idx y ∈ wsX3) (hi : Cond.instanceMethod y ∈ wsX3) (hs : Cond.selects RX3 y y ∈ wsX3) (hn : Cond.initialized RX3 ∈ wsX3) (hc : c ∈ wsX3) : GoodIn (a :: wsX3) (wsV RX3 idx RX3 y (c :: wsX3)) := by
  have g : ∀ w ∈ wsX3, w ∈ a :: wsX3 ∧ ((w.onTables && w.keeps) = true ∨ ∃ ty, w = .arrayClass ty) := fun w hw => ⟨List.mem_cons_of_mem _ hw, good_of_word (List.all_eq_true.mp x3_good w hw)⟩
  intro w hw
  rcases List.mem_append.mp hw with h | h
  · rcases List.mem_cons.mp h with rfl | h
    · exact g _ hl
    · rcases List.mem_cons.mp h with rfl | h
      · exact g _ hi
      · rcases List.mem_cons.mp h with rfl | h
        · exact g _ hs
        · rcases List.mem_cons.mp h with rfl | h
          · exact g _ hn
          · cases h
  · rcases List.mem_cons.mp h with rfl | h
    · exact g _ hc
    · exact g _ h
theorem k3_f7 : Cond.fieldLink RX3 7 "MoverHallModel" "planFloors" "[I" ∈ wsX3 := List.mem_append_left _ (List.mem_of_getElem? (i := 0) rfl)
theorem k3_f13 : Cond.fieldLink RX3 13 "MoverHallModel" "planCeilings" "[I" ∈ wsX3 := List.mem_append_left _ (List.mem_of_getElem? (i := 1) rfl)
theorem k3_f16 : Cond.fieldLink RX3 16 "MoverHallModel" "lights" "[I" ∈ wsX3 := List.mem_append_left _ (List.mem_of_getElem? (i := 2) rfl)
theorem k3_f19 : Cond.fieldLink RX3 19 "MoverHallModel" "kinds" "[I" ∈ wsX3 := List.mem_append_left _ (List.mem_of_getElem? (i := 3) rfl)
theorem k3_f22 : Cond.fieldLink RX3 22 "MoverHallModel" "tags" "[I" ∈ wsX3 := List.mem_append_left _ (List.mem_of_getElem? (i := 4) rfl)
theorem k3_f25 : Cond.fieldLink RX3 25 "MoverHallModel" "beside" "[Z" ∈ wsX3 := List.mem_append_left _ (List.mem_of_getElem? (i := 5) rfl)
theorem k3_f29 : Cond.fieldLink RX3 29 "MoverHallModel" "floors" "[I" ∈ wsX3 := List.mem_append_left _ (List.mem_of_getElem? (i := 6) rfl)
theorem k3_f32 : Cond.fieldLink RX3 32 "MoverHallModel" "ceilings" "[I" ∈ wsX3 := List.mem_append_left _ (List.mem_of_getElem? (i := 7) rfl)
theorem k3_f35 : Cond.fieldLink RX3 35 "MoverHallModel" "movers" "[I" ∈ wsX3 := List.mem_append_left _ (List.mem_of_getElem? (i := 8) rfl)
theorem k3_f38 : Cond.fieldLink RX3 38 "MoverHallModel" "ways" "[I" ∈ wsX3 := List.mem_append_left _ (List.mem_of_getElem? (i := 9) rfl)
theorem k3_f41 : Cond.fieldLink RX3 41 "MoverHallModel" "waits" "[I" ∈ wsX3 := List.mem_append_left _ (List.mem_of_getElem? (i := 10) rfl)
theorem k3_f44 : Cond.fieldLink RX3 44 "MoverHallModel" "ends" "[I" ∈ wsX3 := List.mem_append_left _ (List.mem_of_getElem? (i := 11) rfl)
theorem k3_f47 : Cond.fieldLink RX3 47 "MoverHallModel" "homes" "[I" ∈ wsX3 := List.mem_append_left _ (List.mem_of_getElem? (i := 12) rfl)
theorem k3_f50 : Cond.fieldLink RX3 50 "MoverHallModel" "guest" "I" ∈ wsX3 := List.mem_append_left _ (List.mem_of_getElem? (i := 13) rfl)
theorem k3_f57 : Cond.fieldLink RX3 57 "MoverHallModel" "sectors" "I" ∈ wsX3 := List.mem_append_left _ (List.mem_of_getElem? (i := 14) rfl)
theorem k3_f54 : Cond.fieldLink RX3 54 "MoverHallModel" "thrown" "I" ∈ wsX3 := List.mem_append_left _ (List.mem_of_getElem? (i := 15) rfl)
theorem k3_m60 : Cond.methodLink RX3 60 yX3_reset ∈ wsX3 := List.mem_append_left _ (List.mem_of_getElem? (i := 16) rfl)
theorem k3_i_reset : Cond.instanceMethod yX3_reset ∈ wsX3 := List.mem_append_left _ (List.mem_of_getElem? (i := 17) rfl)
theorem k3_s_reset : Cond.selects RX3 yX3_reset yX3_reset ∈ wsX3 := List.mem_append_left _ (List.mem_of_getElem? (i := 18) rfl)
theorem k3_c_reset : Cond.code yX3_reset cX3_reset 2 none ∈ wsX3 := List.mem_append_left _ (List.mem_of_getElem? (i := 19) rfl)
theorem k3_m63 : Cond.methodLink RX3 63 yX3_isSector ∈ wsX3 := List.mem_append_left _ (List.mem_of_getElem? (i := 20) rfl)
theorem k3_i_isSector : Cond.instanceMethod yX3_isSector ∈ wsX3 := List.mem_append_left _ (List.mem_of_getElem? (i := 21) rfl)
theorem k3_s_isSector : Cond.selects RX3 yX3_isSector yX3_isSector ∈ wsX3 := List.mem_append_left _ (List.mem_of_getElem? (i := 22) rfl)
theorem k3_c_isSector : Cond.code yX3_isSector cX3_isSector 2 (some .boolean) ∈ wsX3 := List.mem_append_left _ (List.mem_of_getElem? (i := 23) rfl)
theorem k3_f67 : Cond.fieldLink RX3 67 "MoverHallModel" "pairs" "I" ∈ wsX3 := List.mem_append_left _ (List.mem_of_getElem? (i := 24) rfl)
theorem k3_f70 : Cond.fieldLink RX3 70 "MoverHallModel" "time" "I" ∈ wsX3 := List.mem_append_left _ (List.mem_of_getElem? (i := 25) rfl)
theorem k3_f73 : Cond.fieldLink RX3 73 "MoverHallModel" "blocked" "I" ∈ wsX3 := List.mem_append_left _ (List.mem_of_getElem? (i := 26) rfl)
theorem k3_k76 : Cond.constant RX3 76 100000 ∈ wsX3 := List.mem_append_left _ (List.mem_of_getElem? (i := 27) rfl)
theorem k3_m77 : Cond.methodLink RX3 77 yX3_lowCeiling ∈ wsX3 := List.mem_append_left _ (List.mem_of_getElem? (i := 28) rfl)
theorem k3_i_lowCeiling : Cond.instanceMethod yX3_lowCeiling ∈ wsX3 := List.mem_append_left _ (List.mem_of_getElem? (i := 29) rfl)
theorem k3_s_lowCeiling : Cond.selects RX3 yX3_lowCeiling yX3_lowCeiling ∈ wsX3 := List.mem_append_left _ (List.mem_of_getElem? (i := 30) rfl)
theorem k3_c_lowCeiling : Cond.code yX3_lowCeiling cX3_lowCeiling 4 (some .int) ∈ wsX3 := List.mem_append_left _ (List.mem_of_getElem? (i := 31) rfl)
theorem k3_m81 : Cond.methodLink RX3 81 yX3_highFloor ∈ wsX3 := List.mem_append_left _ (List.mem_of_getElem? (i := 32) rfl)
theorem k3_i_highFloor : Cond.instanceMethod yX3_highFloor ∈ wsX3 := List.mem_append_left _ (List.mem_of_getElem? (i := 33) rfl)
theorem k3_s_highFloor : Cond.selects RX3 yX3_highFloor yX3_highFloor ∈ wsX3 := List.mem_append_left _ (List.mem_of_getElem? (i := 34) rfl)
theorem k3_c_highFloor : Cond.code yX3_highFloor cX3_highFloor 4 (some .int) ∈ wsX3 := List.mem_append_left _ (List.mem_of_getElem? (i := 35) rfl)
theorem k3_m84 : Cond.methodLink RX3 84 yX3_lowFloor ∈ wsX3 := List.mem_append_left _ (List.mem_of_getElem? (i := 36) rfl)
theorem k3_i_lowFloor : Cond.instanceMethod yX3_lowFloor ∈ wsX3 := List.mem_append_left _ (List.mem_of_getElem? (i := 37) rfl)
theorem k3_s_lowFloor : Cond.selects RX3 yX3_lowFloor yX3_lowFloor ∈ wsX3 := List.mem_append_left _ (List.mem_of_getElem? (i := 38) rfl)
theorem k3_c_lowFloor : Cond.code yX3_lowFloor cX3_lowFloor 4 (some .int) ∈ wsX3 := List.mem_append_left _ (List.mem_of_getElem? (i := 39) rfl)
theorem k3_m87 : Cond.methodLink RX3 87 yX3_begin ∈ wsX3 := List.mem_append_left _ (List.mem_of_getElem? (i := 40) rfl)
theorem k3_i_begin : Cond.instanceMethod yX3_begin ∈ wsX3 := List.mem_append_left _ (List.mem_of_getElem? (i := 41) rfl)
theorem k3_s_begin : Cond.selects RX3 yX3_begin yX3_begin ∈ wsX3 := List.mem_append_left _ (List.mem_of_getElem? (i := 42) rfl)
theorem k3_c_begin : Cond.code yX3_begin cX3_begin 5 (some .boolean) ∈ wsX3 := List.mem_append_left _ (List.mem_of_getElem? (i := 43) rfl)
theorem k3_m91 : Cond.methodLink RX3 91 yX3_await ∈ wsX3 := List.mem_append_left _ (List.mem_of_getElem? (i := 44) rfl)
theorem k3_i_await : Cond.instanceMethod yX3_await ∈ wsX3 := List.mem_append_left _ (List.mem_of_getElem? (i := 45) rfl)
theorem k3_s_await : Cond.selects RX3 yX3_await yX3_await ∈ wsX3 := List.mem_append_left _ (List.mem_of_getElem? (i := 46) rfl)
theorem k3_c_await : Cond.code yX3_await cX3_await 3 none ∈ wsX3 := List.mem_append_left _ (List.mem_of_getElem? (i := 47) rfl)
theorem k3_m95 : Cond.methodLink RX3 95 yX3_end ∈ wsX3 := List.mem_append_left _ (List.mem_of_getElem? (i := 48) rfl)
theorem k3_i_end : Cond.instanceMethod yX3_end ∈ wsX3 := List.mem_append_left _ (List.mem_of_getElem? (i := 49) rfl)
theorem k3_s_end : Cond.selects RX3 yX3_end yX3_end ∈ wsX3 := List.mem_append_left _ (List.mem_of_getElem? (i := 50) rfl)
theorem k3_c_end : Cond.code yX3_end cX3_end 2 none ∈ wsX3 := List.mem_append_left _ (List.mem_of_getElem? (i := 51) rfl)
theorem k3_m99 : Cond.methodLink RX3 99 yX3_stepDoor ∈ wsX3 := List.mem_append_left _ (List.mem_of_getElem? (i := 52) rfl)
theorem k3_i_stepDoor : Cond.instanceMethod yX3_stepDoor ∈ wsX3 := List.mem_append_left _ (List.mem_of_getElem? (i := 53) rfl)
theorem k3_s_stepDoor : Cond.selects RX3 yX3_stepDoor yX3_stepDoor ∈ wsX3 := List.mem_append_left _ (List.mem_of_getElem? (i := 54) rfl)
theorem k3_c_stepDoor : Cond.code yX3_stepDoor cX3_stepDoor 3 none ∈ wsX3 := List.mem_append_left _ (List.mem_of_getElem? (i := 55) rfl)
theorem k3_m102 : Cond.methodLink RX3 102 yX3_rise ∈ wsX3 := List.mem_append_left _ (List.mem_of_getElem? (i := 56) rfl)
theorem k3_i_rise : Cond.instanceMethod yX3_rise ∈ wsX3 := List.mem_append_left _ (List.mem_of_getElem? (i := 57) rfl)
theorem k3_s_rise : Cond.selects RX3 yX3_rise yX3_rise ∈ wsX3 := List.mem_append_left _ (List.mem_of_getElem? (i := 58) rfl)
theorem k3_c_rise : Cond.code yX3_rise cX3_rise 5 none ∈ wsX3 := List.mem_append_left _ (List.mem_of_getElem? (i := 59) rfl)
theorem k3_m106 : Cond.methodLink RX3 106 yX3_step ∈ wsX3 := List.mem_append_left _ (List.mem_of_getElem? (i := 60) rfl)
theorem k3_i_step : Cond.instanceMethod yX3_step ∈ wsX3 := List.mem_append_left _ (List.mem_of_getElem? (i := 61) rfl)
theorem k3_s_step : Cond.selects RX3 yX3_step yX3_step ∈ wsX3 := List.mem_append_left _ (List.mem_of_getElem? (i := 62) rfl)
theorem k3_c_step : Cond.code yX3_step cX3_step 2 none ∈ wsX3 := List.mem_append_left _ (List.mem_of_getElem? (i := 63) rfl)
theorem k3_m109 : Cond.methodLink RX3 109 yX3_many ∈ wsX3 := List.mem_append_left _ (List.mem_of_getElem? (i := 64) rfl)
theorem k3_i_many : Cond.instanceMethod yX3_many ∈ wsX3 := List.mem_append_left _ (List.mem_of_getElem? (i := 65) rfl)
theorem k3_s_many : Cond.selects RX3 yX3_many yX3_many ∈ wsX3 := List.mem_append_left _ (List.mem_of_getElem? (i := 66) rfl)
theorem k3_c_many : Cond.code yX3_many cX3_many 3 (some .int) ∈ wsX3 := List.mem_append_left _ (List.mem_of_getElem? (i := 67) rfl)
theorem k3_m113 : Cond.methodLink RX3 113 yX3_lightOf ∈ wsX3 := List.mem_append_left _ (List.mem_of_getElem? (i := 68) rfl)
theorem k3_i_lightOf : Cond.instanceMethod yX3_lightOf ∈ wsX3 := List.mem_append_left _ (List.mem_of_getElem? (i := 69) rfl)
theorem k3_s_lightOf : Cond.selects RX3 yX3_lightOf yX3_lightOf ∈ wsX3 := List.mem_append_left _ (List.mem_of_getElem? (i := 70) rfl)
theorem k3_c_lightOf : Cond.code yX3_lightOf cX3_lightOf 4 (some .int) ∈ wsX3 := List.mem_append_left _ (List.mem_of_getElem? (i := 71) rfl)
theorem k3_m116 : Cond.methodLink RX3 116 yX3_are ∈ wsX3 := List.mem_append_left _ (List.mem_of_getElem? (i := 72) rfl)
theorem k3_i_are : Cond.instanceMethod yX3_are ∈ wsX3 := List.mem_append_left _ (List.mem_of_getElem? (i := 73) rfl)
theorem k3_s_are : Cond.selects RX3 yX3_are yX3_are ∈ wsX3 := List.mem_append_left _ (List.mem_of_getElem? (i := 74) rfl)
theorem k3_c_are : Cond.code yX3_are cX3_are 3 (some .boolean) ∈ wsX3 := List.mem_append_left _ (List.mem_of_getElem? (i := 75) rfl)
theorem k3_ini : Cond.initialized RX3 ∈ wsX3 := List.mem_append_left _ (List.mem_of_getElem? (i := 76) rfl)
theorem k3_ol : Cond.methodLink RX3 1 objectInit ∈ wsX3 := List.mem_append_left _ (List.mem_of_getElem? (i := 77) rfl)
theorem k3_oi : Cond.instanceMethod objectInit ∈ wsX3 := List.mem_append_left _ (List.mem_of_getElem? (i := 78) rfl)
theorem k3_oc : Cond.code objectInit ⟨#[0xb1]⟩ 1 none ∈ wsX3 := List.mem_append_left _ (List.mem_of_getElem? (i := 79) rfl)
theorem k3_ai : Cond.arrayClass .int ∈ wsX3 := List.mem_append_left _ (List.mem_of_getElem? (i := 80) rfl)
theorem k3_az : Cond.arrayClass .boolean ∈ wsX3 := List.mem_append_left _ (List.mem_of_getElem? (i := 81) rfl)
end
section
theorem dX3_init_0 : decode cX3_init 0 = .ok (.aload_n 0, 1) := by decide +kernel
theorem dX3_init_1 : decode cX3_init 1 = .ok (.invokespecial 1, 3) := by decide +kernel
theorem dX3_init_4 : decode cX3_init 4 = .ok (.aload_n 0, 1) := by decide +kernel
theorem dX3_init_5 : decode cX3_init 5 = .ok (.bipush 32, 2) := by decide +kernel
theorem dX3_init_7 : decode cX3_init 7 = .ok (.newarray .int, 2) := by decide +kernel
theorem dX3_init_9 : decode cX3_init 9 = .ok (.putfield 7, 3) := by decide +kernel
theorem dX3_init_12 : decode cX3_init 12 = .ok (.aload_n 0, 1) := by decide +kernel
theorem dX3_init_13 : decode cX3_init 13 = .ok (.bipush 32, 2) := by decide +kernel
theorem dX3_init_15 : decode cX3_init 15 = .ok (.newarray .int, 2) := by decide +kernel
theorem dX3_init_17 : decode cX3_init 17 = .ok (.putfield 13, 3) := by decide +kernel
theorem dX3_init_20 : decode cX3_init 20 = .ok (.aload_n 0, 1) := by decide +kernel
theorem dX3_init_21 : decode cX3_init 21 = .ok (.bipush 32, 2) := by decide +kernel
theorem dX3_init_23 : decode cX3_init 23 = .ok (.newarray .int, 2) := by decide +kernel
theorem dX3_init_25 : decode cX3_init 25 = .ok (.putfield 16, 3) := by decide +kernel
theorem dX3_init_28 : decode cX3_init 28 = .ok (.aload_n 0, 1) := by decide +kernel
theorem dX3_init_29 : decode cX3_init 29 = .ok (.bipush 32, 2) := by decide +kernel
theorem dX3_init_31 : decode cX3_init 31 = .ok (.newarray .int, 2) := by decide +kernel
theorem dX3_init_33 : decode cX3_init 33 = .ok (.putfield 19, 3) := by decide +kernel
theorem dX3_init_36 : decode cX3_init 36 = .ok (.aload_n 0, 1) := by decide +kernel
theorem dX3_init_37 : decode cX3_init 37 = .ok (.bipush 32, 2) := by decide +kernel
theorem dX3_init_39 : decode cX3_init 39 = .ok (.newarray .int, 2) := by decide +kernel
theorem dX3_init_41 : decode cX3_init 41 = .ok (.putfield 22, 3) := by decide +kernel
theorem dX3_init_44 : decode cX3_init 44 = .ok (.aload_n 0, 1) := by decide +kernel
theorem dX3_init_45 : decode cX3_init 45 = .ok (.sipush 1024, 3) := by decide +kernel
theorem dX3_init_48 : decode cX3_init 48 = .ok (.newarray .boolean, 2) := by decide +kernel
theorem dX3_init_50 : decode cX3_init 50 = .ok (.putfield 25, 3) := by decide +kernel
theorem dX3_init_53 : decode cX3_init 53 = .ok (.aload_n 0, 1) := by decide +kernel
theorem dX3_init_54 : decode cX3_init 54 = .ok (.bipush 32, 2) := by decide +kernel
theorem dX3_init_56 : decode cX3_init 56 = .ok (.newarray .int, 2) := by decide +kernel
theorem dX3_init_58 : decode cX3_init 58 = .ok (.putfield 29, 3) := by decide +kernel
theorem dX3_init_61 : decode cX3_init 61 = .ok (.aload_n 0, 1) := by decide +kernel
theorem dX3_init_62 : decode cX3_init 62 = .ok (.bipush 32, 2) := by decide +kernel
theorem dX3_init_64 : decode cX3_init 64 = .ok (.newarray .int, 2) := by decide +kernel
theorem dX3_init_66 : decode cX3_init 66 = .ok (.putfield 32, 3) := by decide +kernel
theorem dX3_init_69 : decode cX3_init 69 = .ok (.aload_n 0, 1) := by decide +kernel
theorem dX3_init_70 : decode cX3_init 70 = .ok (.bipush 32, 2) := by decide +kernel
theorem dX3_init_72 : decode cX3_init 72 = .ok (.newarray .int, 2) := by decide +kernel
theorem dX3_init_74 : decode cX3_init 74 = .ok (.putfield 35, 3) := by decide +kernel
theorem dX3_init_77 : decode cX3_init 77 = .ok (.aload_n 0, 1) := by decide +kernel
theorem dX3_init_78 : decode cX3_init 78 = .ok (.bipush 32, 2) := by decide +kernel
theorem dX3_init_80 : decode cX3_init 80 = .ok (.newarray .int, 2) := by decide +kernel
theorem dX3_init_82 : decode cX3_init 82 = .ok (.putfield 38, 3) := by decide +kernel
theorem dX3_init_85 : decode cX3_init 85 = .ok (.aload_n 0, 1) := by decide +kernel
theorem dX3_init_86 : decode cX3_init 86 = .ok (.bipush 32, 2) := by decide +kernel
theorem dX3_init_88 : decode cX3_init 88 = .ok (.newarray .int, 2) := by decide +kernel
theorem dX3_init_90 : decode cX3_init 90 = .ok (.putfield 41, 3) := by decide +kernel
theorem dX3_init_93 : decode cX3_init 93 = .ok (.aload_n 0, 1) := by decide +kernel
theorem dX3_init_94 : decode cX3_init 94 = .ok (.bipush 32, 2) := by decide +kernel
theorem dX3_init_96 : decode cX3_init 96 = .ok (.newarray .int, 2) := by decide +kernel
theorem dX3_init_98 : decode cX3_init 98 = .ok (.putfield 44, 3) := by decide +kernel
theorem dX3_init_101 : decode cX3_init 101 = .ok (.aload_n 0, 1) := by decide +kernel
theorem dX3_init_102 : decode cX3_init 102 = .ok (.bipush 32, 2) := by decide +kernel
theorem dX3_init_104 : decode cX3_init 104 = .ok (.newarray .int, 2) := by decide +kernel
theorem dX3_init_106 : decode cX3_init 106 = .ok (.putfield 47, 3) := by decide +kernel
theorem dX3_init_109 : decode cX3_init 109 = .ok (.aload_n 0, 1) := by decide +kernel
theorem dX3_init_110 : decode cX3_init 110 = .ok (.iconst (-1), 1) := by decide +kernel
theorem dX3_init_111 : decode cX3_init 111 = .ok (.putfield 50, 3) := by decide +kernel
theorem dX3_init_114 : decode cX3_init 114 = .ok (.return_, 1) := by decide +kernel
theorem dX3_isSector_0 : decode cX3_isSector 0 = .ok (.iload_n 1, 1) := by decide +kernel
theorem dX3_isSector_1 : decode cX3_isSector 1 = .ok (.ifCond .lt 15, 3) := by decide +kernel
theorem dX3_isSector_4 : decode cX3_isSector 4 = .ok (.iload_n 1, 1) := by decide +kernel
theorem dX3_isSector_5 : decode cX3_isSector 5 = .ok (.aload_n 0, 1) := by decide +kernel
theorem dX3_isSector_6 : decode cX3_isSector 6 = .ok (.getfield 57, 3) := by decide +kernel
theorem dX3_isSector_9 : decode cX3_isSector 9 = .ok (.if_icmp .ge 7, 3) := by decide +kernel
theorem dX3_isSector_12 : decode cX3_isSector 12 = .ok (.iconst 1, 1) := by decide +kernel
theorem dX3_isSector_13 : decode cX3_isSector 13 = .ok (.goto 4, 3) := by decide +kernel
theorem dX3_isSector_16 : decode cX3_isSector 16 = .ok (.iconst 0, 1) := by decide +kernel
theorem dX3_isSector_17 : decode cX3_isSector 17 = .ok (.ireturn, 1) := by decide +kernel
theorem dX3_sector_0 : decode cX3_sector 0 = .ok (.aload_n 0, 1) := by decide +kernel
theorem dX3_sector_1 : decode cX3_sector 1 = .ok (.iconst 0, 1) := by decide +kernel
theorem dX3_sector_2 : decode cX3_sector 2 = .ok (.putfield 54, 3) := by decide +kernel
theorem dX3_sector_5 : decode cX3_sector 5 = .ok (.iload_n 1, 1) := by decide +kernel
theorem dX3_sector_6 : decode cX3_sector 6 = .ok (.sipush (-1024), 3) := by decide +kernel
theorem dX3_sector_9 : decode cX3_sector 9 = .ok (.if_icmp .lt 62, 3) := by decide +kernel
theorem dX3_sector_12 : decode cX3_sector 12 = .ok (.iload_n 2, 1) := by decide +kernel
theorem dX3_sector_13 : decode cX3_sector 13 = .ok (.sipush 1024, 3) := by decide +kernel
theorem dX3_sector_16 : decode cX3_sector 16 = .ok (.if_icmp .gt 55, 3) := by decide +kernel
theorem dX3_sector_19 : decode cX3_sector 19 = .ok (.iload_n 2, 1) := by decide +kernel
theorem dX3_sector_20 : decode cX3_sector 20 = .ok (.iload_n 1, 1) := by decide +kernel
theorem dX3_sector_21 : decode cX3_sector 21 = .ok (.if_icmp .le 50, 3) := by decide +kernel
theorem dX3_sector_24 : decode cX3_sector 24 = .ok (.iload_n 3, 1) := by decide +kernel
theorem dX3_sector_25 : decode cX3_sector 25 = .ok (.ifCond .lt 46, 3) := by decide +kernel
theorem dX3_sector_28 : decode cX3_sector 28 = .ok (.iload_n 3, 1) := by decide +kernel
theorem dX3_sector_29 : decode cX3_sector 29 = .ok (.bipush 16, 2) := by decide +kernel
theorem dX3_sector_31 : decode cX3_sector 31 = .ok (.if_icmp .ge 40, 3) := by decide +kernel
theorem dX3_sector_34 : decode cX3_sector 34 = .ok (.iload 4, 2) := by decide +kernel
theorem dX3_sector_36 : decode cX3_sector 36 = .ok (.ifCond .lt 35, 3) := by decide +kernel
theorem dX3_sector_39 : decode cX3_sector 39 = .ok (.iload 4, 2) := by decide +kernel
theorem dX3_sector_41 : decode cX3_sector 41 = .ok (.iconst 4, 1) := by decide +kernel
theorem dX3_sector_42 : decode cX3_sector 42 = .ok (.if_icmp .ge 29, 3) := by decide +kernel
theorem dX3_sector_45 : decode cX3_sector 45 = .ok (.iload 5, 2) := by decide +kernel
theorem dX3_sector_47 : decode cX3_sector 47 = .ok (.ifCond .lt 24, 3) := by decide +kernel
theorem dX3_sector_50 : decode cX3_sector 50 = .ok (.iload 5, 2) := by decide +kernel
theorem dX3_sector_52 : decode cX3_sector 52 = .ok (.sipush 256, 3) := by decide +kernel
theorem dX3_sector_55 : decode cX3_sector 55 = .ok (.if_icmp .ge 16, 3) := by decide +kernel
theorem dX3_sector_58 : decode cX3_sector 58 = .ok (.aload_n 0, 1) := by decide +kernel
theorem dX3_sector_59 : decode cX3_sector 59 = .ok (.getfield 57, 3) := by decide +kernel
theorem dX3_sector_62 : decode cX3_sector 62 = .ok (.bipush 32, 2) := by decide +kernel
theorem dX3_sector_64 : decode cX3_sector 64 = .ok (.if_icmp .ge 7, 3) := by decide +kernel
theorem dX3_sector_67 : decode cX3_sector 67 = .ok (.iconst 1, 1) := by decide +kernel
theorem dX3_sector_68 : decode cX3_sector 68 = .ok (.goto 4, 3) := by decide +kernel
theorem dX3_sector_71 : decode cX3_sector 71 = .ok (.iconst 0, 1) := by decide +kernel
theorem dX3_sector_72 : decode cX3_sector 72 = .ok (.istore 6, 2) := by decide +kernel
theorem dX3_sector_74 : decode cX3_sector 74 = .ok (.iload 6, 2) := by decide +kernel
theorem dX3_sector_76 : decode cX3_sector 76 = .ok (.ifCond .ne 5, 3) := by decide +kernel
theorem dX3_sector_79 : decode cX3_sector 79 = .ok (.iconst (-1), 1) := by decide +kernel
theorem dX3_sector_80 : decode cX3_sector 80 = .ok (.ireturn, 1) := by decide +kernel
theorem dX3_sector_81 : decode cX3_sector 81 = .ok (.aload_n 0, 1) := by decide +kernel
theorem dX3_sector_82 : decode cX3_sector 82 = .ok (.getfield 7, 3) := by decide +kernel
theorem dX3_sector_85 : decode cX3_sector 85 = .ok (.aload_n 0, 1) := by decide +kernel
theorem dX3_sector_86 : decode cX3_sector 86 = .ok (.getfield 57, 3) := by decide +kernel
theorem dX3_sector_89 : decode cX3_sector 89 = .ok (.iload_n 1, 1) := by decide +kernel
theorem dX3_sector_90 : decode cX3_sector 90 = .ok (.iastore, 1) := by decide +kernel
theorem dX3_sector_91 : decode cX3_sector 91 = .ok (.aload_n 0, 1) := by decide +kernel
theorem dX3_sector_92 : decode cX3_sector 92 = .ok (.getfield 13, 3) := by decide +kernel
theorem dX3_sector_95 : decode cX3_sector 95 = .ok (.aload_n 0, 1) := by decide +kernel
theorem dX3_sector_96 : decode cX3_sector 96 = .ok (.getfield 57, 3) := by decide +kernel
theorem dX3_sector_99 : decode cX3_sector 99 = .ok (.iload_n 2, 1) := by decide +kernel
theorem dX3_sector_100 : decode cX3_sector 100 = .ok (.iastore, 1) := by decide +kernel
theorem dX3_sector_101 : decode cX3_sector 101 = .ok (.aload_n 0, 1) := by decide +kernel
theorem dX3_sector_102 : decode cX3_sector 102 = .ok (.getfield 16, 3) := by decide +kernel
theorem dX3_sector_105 : decode cX3_sector 105 = .ok (.aload_n 0, 1) := by decide +kernel
theorem dX3_sector_106 : decode cX3_sector 106 = .ok (.getfield 57, 3) := by decide +kernel
theorem dX3_sector_109 : decode cX3_sector 109 = .ok (.iload_n 3, 1) := by decide +kernel
theorem dX3_sector_110 : decode cX3_sector 110 = .ok (.iastore, 1) := by decide +kernel
theorem dX3_sector_111 : decode cX3_sector 111 = .ok (.aload_n 0, 1) := by decide +kernel
theorem dX3_sector_112 : decode cX3_sector 112 = .ok (.getfield 19, 3) := by decide +kernel
theorem dX3_sector_115 : decode cX3_sector 115 = .ok (.aload_n 0, 1) := by decide +kernel
theorem dX3_sector_116 : decode cX3_sector 116 = .ok (.getfield 57, 3) := by decide +kernel
theorem dX3_sector_119 : decode cX3_sector 119 = .ok (.iload 4, 2) := by decide +kernel
theorem dX3_sector_121 : decode cX3_sector 121 = .ok (.iastore, 1) := by decide +kernel
theorem dX3_sector_122 : decode cX3_sector 122 = .ok (.aload_n 0, 1) := by decide +kernel
theorem dX3_sector_123 : decode cX3_sector 123 = .ok (.getfield 22, 3) := by decide +kernel
theorem dX3_sector_126 : decode cX3_sector 126 = .ok (.aload_n 0, 1) := by decide +kernel
theorem dX3_sector_127 : decode cX3_sector 127 = .ok (.getfield 57, 3) := by decide +kernel
theorem dX3_sector_130 : decode cX3_sector 130 = .ok (.iload 5, 2) := by decide +kernel
theorem dX3_sector_132 : decode cX3_sector 132 = .ok (.iastore, 1) := by decide +kernel
theorem dX3_sector_133 : decode cX3_sector 133 = .ok (.aload_n 0, 1) := by decide +kernel
theorem dX3_sector_134 : decode cX3_sector 134 = .ok (.dup, 1) := by decide +kernel
theorem dX3_sector_135 : decode cX3_sector 135 = .ok (.getfield 57, 3) := by decide +kernel
theorem dX3_sector_138 : decode cX3_sector 138 = .ok (.iconst 1, 1) := by decide +kernel
theorem dX3_sector_139 : decode cX3_sector 139 = .ok (.iadd, 1) := by decide +kernel
theorem dX3_sector_140 : decode cX3_sector 140 = .ok (.putfield 57, 3) := by decide +kernel
theorem dX3_sector_143 : decode cX3_sector 143 = .ok (.aload_n 0, 1) := by decide +kernel
theorem dX3_sector_144 : decode cX3_sector 144 = .ok (.invokevirtual 60, 3) := by decide +kernel
theorem dX3_sector_147 : decode cX3_sector 147 = .ok (.aload_n 0, 1) := by decide +kernel
theorem dX3_sector_148 : decode cX3_sector 148 = .ok (.getfield 57, 3) := by decide +kernel
theorem dX3_sector_151 : decode cX3_sector 151 = .ok (.iconst 1, 1) := by decide +kernel
theorem dX3_sector_152 : decode cX3_sector 152 = .ok (.isub, 1) := by decide +kernel
theorem dX3_sector_153 : decode cX3_sector 153 = .ok (.ireturn, 1) := by decide +kernel
theorem dX3_join_0 : decode cX3_join 0 = .ok (.aload_n 0, 1) := by decide +kernel
theorem dX3_join_1 : decode cX3_join 1 = .ok (.iconst 0, 1) := by decide +kernel
theorem dX3_join_2 : decode cX3_join 2 = .ok (.putfield 54, 3) := by decide +kernel
theorem dX3_join_5 : decode cX3_join 5 = .ok (.aload_n 0, 1) := by decide +kernel
theorem dX3_join_6 : decode cX3_join 6 = .ok (.iload_n 1, 1) := by decide +kernel
theorem dX3_join_7 : decode cX3_join 7 = .ok (.invokevirtual 63, 3) := by decide +kernel
theorem dX3_join_10 : decode cX3_join 10 = .ok (.ifCond .eq 30, 3) := by decide +kernel
theorem dX3_join_13 : decode cX3_join 13 = .ok (.aload_n 0, 1) := by decide +kernel
theorem dX3_join_14 : decode cX3_join 14 = .ok (.iload_n 2, 1) := by decide +kernel
theorem dX3_join_15 : decode cX3_join 15 = .ok (.invokevirtual 63, 3) := by decide +kernel
theorem dX3_join_18 : decode cX3_join 18 = .ok (.ifCond .eq 22, 3) := by decide +kernel
theorem dX3_join_21 : decode cX3_join 21 = .ok (.iload_n 1, 1) := by decide +kernel
theorem dX3_join_22 : decode cX3_join 22 = .ok (.iload_n 2, 1) := by decide +kernel
theorem dX3_join_23 : decode cX3_join 23 = .ok (.if_icmp .eq 17, 3) := by decide +kernel
theorem dX3_join_26 : decode cX3_join 26 = .ok (.aload_n 0, 1) := by decide +kernel
theorem dX3_join_27 : decode cX3_join 27 = .ok (.getfield 25, 3) := by decide +kernel
theorem dX3_join_30 : decode cX3_join 30 = .ok (.bipush 32, 2) := by decide +kernel
theorem dX3_join_32 : decode cX3_join 32 = .ok (.iload_n 1, 1) := by decide +kernel
theorem dX3_join_33 : decode cX3_join 33 = .ok (.imul, 1) := by decide +kernel
theorem dX3_join_34 : decode cX3_join 34 = .ok (.iload_n 2, 1) := by decide +kernel
theorem dX3_join_35 : decode cX3_join 35 = .ok (.iadd, 1) := by decide +kernel
theorem dX3_join_36 : decode cX3_join 36 = .ok (.baload, 1) := by decide +kernel
theorem dX3_join_37 : decode cX3_join 37 = .ok (.ifCond .eq 5, 3) := by decide +kernel
theorem dX3_join_40 : decode cX3_join 40 = .ok (.iconst 0, 1) := by decide +kernel
theorem dX3_join_41 : decode cX3_join 41 = .ok (.ireturn, 1) := by decide +kernel
theorem dX3_join_42 : decode cX3_join 42 = .ok (.aload_n 0, 1) := by decide +kernel
theorem dX3_join_43 : decode cX3_join 43 = .ok (.getfield 25, 3) := by decide +kernel
theorem dX3_join_46 : decode cX3_join 46 = .ok (.bipush 32, 2) := by decide +kernel
theorem dX3_join_48 : decode cX3_join 48 = .ok (.iload_n 1, 1) := by decide +kernel
theorem dX3_join_49 : decode cX3_join 49 = .ok (.imul, 1) := by decide +kernel
theorem dX3_join_50 : decode cX3_join 50 = .ok (.iload_n 2, 1) := by decide +kernel
theorem dX3_join_51 : decode cX3_join 51 = .ok (.iadd, 1) := by decide +kernel
theorem dX3_join_52 : decode cX3_join 52 = .ok (.iconst 1, 1) := by decide +kernel
theorem dX3_join_53 : decode cX3_join 53 = .ok (.bastore, 1) := by decide +kernel
theorem dX3_join_54 : decode cX3_join 54 = .ok (.aload_n 0, 1) := by decide +kernel
theorem dX3_join_55 : decode cX3_join 55 = .ok (.getfield 25, 3) := by decide +kernel
theorem dX3_join_58 : decode cX3_join 58 = .ok (.bipush 32, 2) := by decide +kernel
theorem dX3_join_60 : decode cX3_join 60 = .ok (.iload_n 2, 1) := by decide +kernel
theorem dX3_join_61 : decode cX3_join 61 = .ok (.imul, 1) := by decide +kernel
theorem dX3_join_62 : decode cX3_join 62 = .ok (.iload_n 1, 1) := by decide +kernel
theorem dX3_join_63 : decode cX3_join 63 = .ok (.iadd, 1) := by decide +kernel
theorem dX3_join_64 : decode cX3_join 64 = .ok (.iconst 1, 1) := by decide +kernel
theorem dX3_join_65 : decode cX3_join 65 = .ok (.bastore, 1) := by decide +kernel
theorem dX3_join_66 : decode cX3_join 66 = .ok (.aload_n 0, 1) := by decide +kernel
theorem dX3_join_67 : decode cX3_join 67 = .ok (.dup, 1) := by decide +kernel
theorem dX3_join_68 : decode cX3_join 68 = .ok (.getfield 67, 3) := by decide +kernel
theorem dX3_join_71 : decode cX3_join 71 = .ok (.iconst 1, 1) := by decide +kernel
theorem dX3_join_72 : decode cX3_join 72 = .ok (.iadd, 1) := by decide +kernel
theorem dX3_join_73 : decode cX3_join 73 = .ok (.putfield 67, 3) := by decide +kernel
theorem dX3_join_76 : decode cX3_join 76 = .ok (.iconst 1, 1) := by decide +kernel
theorem dX3_join_77 : decode cX3_join 77 = .ok (.ireturn, 1) := by decide +kernel
theorem dX3_reset_0 : decode cX3_reset 0 = .ok (.aload_n 0, 1) := by decide +kernel
theorem dX3_reset_1 : decode cX3_reset 1 = .ok (.iconst 0, 1) := by decide +kernel
theorem dX3_reset_2 : decode cX3_reset 2 = .ok (.putfield 54, 3) := by decide +kernel
theorem dX3_reset_5 : decode cX3_reset 5 = .ok (.iconst 0, 1) := by decide +kernel
theorem dX3_reset_6 : decode cX3_reset 6 = .ok (.istore_n 1, 1) := by decide +kernel
theorem dX3_reset_7 : decode cX3_reset 7 = .ok (.iload_n 1, 1) := by decide +kernel
theorem dX3_reset_8 : decode cX3_reset 8 = .ok (.aload_n 0, 1) := by decide +kernel
theorem dX3_reset_9 : decode cX3_reset 9 = .ok (.getfield 57, 3) := by decide +kernel
theorem dX3_reset_12 : decode cX3_reset 12 = .ok (.if_icmp .ge 61, 3) := by decide +kernel
theorem dX3_reset_15 : decode cX3_reset 15 = .ok (.aload_n 0, 1) := by decide +kernel
theorem dX3_reset_16 : decode cX3_reset 16 = .ok (.getfield 29, 3) := by decide +kernel
theorem dX3_reset_19 : decode cX3_reset 19 = .ok (.iload_n 1, 1) := by decide +kernel
theorem dX3_reset_20 : decode cX3_reset 20 = .ok (.aload_n 0, 1) := by decide +kernel
theorem dX3_reset_21 : decode cX3_reset 21 = .ok (.getfield 7, 3) := by decide +kernel
theorem dX3_reset_24 : decode cX3_reset 24 = .ok (.iload_n 1, 1) := by decide +kernel
theorem dX3_reset_25 : decode cX3_reset 25 = .ok (.iaload, 1) := by decide +kernel
theorem dX3_reset_26 : decode cX3_reset 26 = .ok (.iastore, 1) := by decide +kernel
theorem dX3_reset_27 : decode cX3_reset 27 = .ok (.aload_n 0, 1) := by decide +kernel
theorem dX3_reset_28 : decode cX3_reset 28 = .ok (.getfield 32, 3) := by decide +kernel
theorem dX3_reset_31 : decode cX3_reset 31 = .ok (.iload_n 1, 1) := by decide +kernel
theorem dX3_reset_32 : decode cX3_reset 32 = .ok (.aload_n 0, 1) := by decide +kernel
theorem dX3_reset_33 : decode cX3_reset 33 = .ok (.getfield 13, 3) := by decide +kernel
theorem dX3_reset_36 : decode cX3_reset 36 = .ok (.iload_n 1, 1) := by decide +kernel
theorem dX3_reset_37 : decode cX3_reset 37 = .ok (.iaload, 1) := by decide +kernel
theorem dX3_reset_38 : decode cX3_reset 38 = .ok (.iastore, 1) := by decide +kernel
theorem dX3_reset_39 : decode cX3_reset 39 = .ok (.aload_n 0, 1) := by decide +kernel
theorem dX3_reset_40 : decode cX3_reset 40 = .ok (.getfield 35, 3) := by decide +kernel
theorem dX3_reset_43 : decode cX3_reset 43 = .ok (.iload_n 1, 1) := by decide +kernel
theorem dX3_reset_44 : decode cX3_reset 44 = .ok (.iconst (-1), 1) := by decide +kernel
theorem dX3_reset_45 : decode cX3_reset 45 = .ok (.iastore, 1) := by decide +kernel
theorem dX3_reset_46 : decode cX3_reset 46 = .ok (.aload_n 0, 1) := by decide +kernel
theorem dX3_reset_47 : decode cX3_reset 47 = .ok (.getfield 38, 3) := by decide +kernel
theorem dX3_reset_50 : decode cX3_reset 50 = .ok (.iload_n 1, 1) := by decide +kernel
theorem dX3_reset_51 : decode cX3_reset 51 = .ok (.iconst 0, 1) := by decide +kernel
theorem dX3_reset_52 : decode cX3_reset 52 = .ok (.iastore, 1) := by decide +kernel
theorem dX3_reset_53 : decode cX3_reset 53 = .ok (.aload_n 0, 1) := by decide +kernel
theorem dX3_reset_54 : decode cX3_reset 54 = .ok (.getfield 41, 3) := by decide +kernel
theorem dX3_reset_57 : decode cX3_reset 57 = .ok (.iload_n 1, 1) := by decide +kernel
theorem dX3_reset_58 : decode cX3_reset 58 = .ok (.iconst 0, 1) := by decide +kernel
theorem dX3_reset_59 : decode cX3_reset 59 = .ok (.iastore, 1) := by decide +kernel
theorem dX3_reset_60 : decode cX3_reset 60 = .ok (.aload_n 0, 1) := by decide +kernel
theorem dX3_reset_61 : decode cX3_reset 61 = .ok (.getfield 44, 3) := by decide +kernel
theorem dX3_reset_64 : decode cX3_reset 64 = .ok (.iload_n 1, 1) := by decide +kernel
theorem dX3_reset_65 : decode cX3_reset 65 = .ok (.iconst (-1), 1) := by decide +kernel
theorem dX3_reset_66 : decode cX3_reset 66 = .ok (.iastore, 1) := by decide +kernel
theorem dX3_reset_67 : decode cX3_reset 67 = .ok (.iinc 1 1, 3) := by decide +kernel
theorem dX3_reset_70 : decode cX3_reset 70 = .ok (.goto (-63), 3) := by decide +kernel
theorem dX3_reset_73 : decode cX3_reset 73 = .ok (.aload_n 0, 1) := by decide +kernel
theorem dX3_reset_74 : decode cX3_reset 74 = .ok (.iconst 0, 1) := by decide +kernel
theorem dX3_reset_75 : decode cX3_reset 75 = .ok (.putfield 70, 3) := by decide +kernel
theorem dX3_reset_78 : decode cX3_reset 78 = .ok (.aload_n 0, 1) := by decide +kernel
theorem dX3_reset_79 : decode cX3_reset 79 = .ok (.iconst (-1), 1) := by decide +kernel
theorem dX3_reset_80 : decode cX3_reset 80 = .ok (.putfield 50, 3) := by decide +kernel
theorem dX3_reset_83 : decode cX3_reset 83 = .ok (.aload_n 0, 1) := by decide +kernel
theorem dX3_reset_84 : decode cX3_reset 84 = .ok (.iconst 0, 1) := by decide +kernel
theorem dX3_reset_85 : decode cX3_reset 85 = .ok (.putfield 73, 3) := by decide +kernel
theorem dX3_reset_88 : decode cX3_reset 88 = .ok (.return_, 1) := by decide +kernel
theorem dX3_clear_0 : decode cX3_clear 0 = .ok (.aload_n 0, 1) := by decide +kernel
theorem dX3_clear_1 : decode cX3_clear 1 = .ok (.iconst 0, 1) := by decide +kernel
theorem dX3_clear_2 : decode cX3_clear 2 = .ok (.putfield 54, 3) := by decide +kernel
theorem dX3_clear_5 : decode cX3_clear 5 = .ok (.aload_n 0, 1) := by decide +kernel
theorem dX3_clear_6 : decode cX3_clear 6 = .ok (.iconst 0, 1) := by decide +kernel
theorem dX3_clear_7 : decode cX3_clear 7 = .ok (.putfield 57, 3) := by decide +kernel
theorem dX3_clear_10 : decode cX3_clear 10 = .ok (.aload_n 0, 1) := by decide +kernel
theorem dX3_clear_11 : decode cX3_clear 11 = .ok (.iconst 0, 1) := by decide +kernel
theorem dX3_clear_12 : decode cX3_clear 12 = .ok (.putfield 67, 3) := by decide +kernel
theorem dX3_clear_15 : decode cX3_clear 15 = .ok (.iconst 0, 1) := by decide +kernel
theorem dX3_clear_16 : decode cX3_clear 16 = .ok (.istore_n 1, 1) := by decide +kernel
theorem dX3_clear_17 : decode cX3_clear 17 = .ok (.iload_n 1, 1) := by decide +kernel
theorem dX3_clear_18 : decode cX3_clear 18 = .ok (.sipush 1024, 3) := by decide +kernel
theorem dX3_clear_21 : decode cX3_clear 21 = .ok (.if_icmp .ge 16, 3) := by decide +kernel
theorem dX3_clear_24 : decode cX3_clear 24 = .ok (.aload_n 0, 1) := by decide +kernel
theorem dX3_clear_25 : decode cX3_clear 25 = .ok (.getfield 25, 3) := by decide +kernel
theorem dX3_clear_28 : decode cX3_clear 28 = .ok (.iload_n 1, 1) := by decide +kernel
theorem dX3_clear_29 : decode cX3_clear 29 = .ok (.iconst 0, 1) := by decide +kernel
theorem dX3_clear_30 : decode cX3_clear 30 = .ok (.bastore, 1) := by decide +kernel
theorem dX3_clear_31 : decode cX3_clear 31 = .ok (.iinc 1 1, 3) := by decide +kernel
theorem dX3_clear_34 : decode cX3_clear 34 = .ok (.goto (-17), 3) := by decide +kernel
theorem dX3_clear_37 : decode cX3_clear 37 = .ok (.aload_n 0, 1) := by decide +kernel
theorem dX3_clear_38 : decode cX3_clear 38 = .ok (.invokevirtual 60, 3) := by decide +kernel
theorem dX3_clear_41 : decode cX3_clear 41 = .ok (.return_, 1) := by decide +kernel
theorem dX3_lowFloor_0 : decode cX3_lowFloor 0 = .ok (.aload_n 0, 1) := by decide +kernel
theorem dX3_lowFloor_1 : decode cX3_lowFloor 1 = .ok (.getfield 29, 3) := by decide +kernel
theorem dX3_lowFloor_4 : decode cX3_lowFloor 4 = .ok (.iload_n 1, 1) := by decide +kernel
theorem dX3_lowFloor_5 : decode cX3_lowFloor 5 = .ok (.iaload, 1) := by decide +kernel
theorem dX3_lowFloor_6 : decode cX3_lowFloor 6 = .ok (.istore_n 2, 1) := by decide +kernel
theorem dX3_lowFloor_7 : decode cX3_lowFloor 7 = .ok (.iconst 0, 1) := by decide +kernel
theorem dX3_lowFloor_8 : decode cX3_lowFloor 8 = .ok (.istore_n 3, 1) := by decide +kernel
theorem dX3_lowFloor_9 : decode cX3_lowFloor 9 = .ok (.iload_n 3, 1) := by decide +kernel
theorem dX3_lowFloor_10 : decode cX3_lowFloor 10 = .ok (.aload_n 0, 1) := by decide +kernel
theorem dX3_lowFloor_11 : decode cX3_lowFloor 11 = .ok (.getfield 57, 3) := by decide +kernel
theorem dX3_lowFloor_14 : decode cX3_lowFloor 14 = .ok (.if_icmp .ge 44, 3) := by decide +kernel
theorem dX3_lowFloor_17 : decode cX3_lowFloor 17 = .ok (.aload_n 0, 1) := by decide +kernel
theorem dX3_lowFloor_18 : decode cX3_lowFloor 18 = .ok (.getfield 25, 3) := by decide +kernel
theorem dX3_lowFloor_21 : decode cX3_lowFloor 21 = .ok (.bipush 32, 2) := by decide +kernel
theorem dX3_lowFloor_23 : decode cX3_lowFloor 23 = .ok (.iload_n 1, 1) := by decide +kernel
theorem dX3_lowFloor_24 : decode cX3_lowFloor 24 = .ok (.imul, 1) := by decide +kernel
theorem dX3_lowFloor_25 : decode cX3_lowFloor 25 = .ok (.iload_n 3, 1) := by decide +kernel
theorem dX3_lowFloor_26 : decode cX3_lowFloor 26 = .ok (.iadd, 1) := by decide +kernel
theorem dX3_lowFloor_27 : decode cX3_lowFloor 27 = .ok (.baload, 1) := by decide +kernel
theorem dX3_lowFloor_28 : decode cX3_lowFloor 28 = .ok (.ifCond .eq 22, 3) := by decide +kernel
theorem dX3_lowFloor_31 : decode cX3_lowFloor 31 = .ok (.aload_n 0, 1) := by decide +kernel
theorem dX3_lowFloor_32 : decode cX3_lowFloor 32 = .ok (.getfield 29, 3) := by decide +kernel
theorem dX3_lowFloor_35 : decode cX3_lowFloor 35 = .ok (.iload_n 3, 1) := by decide +kernel
theorem dX3_lowFloor_36 : decode cX3_lowFloor 36 = .ok (.iaload, 1) := by decide +kernel
theorem dX3_lowFloor_37 : decode cX3_lowFloor 37 = .ok (.iload_n 2, 1) := by decide +kernel
theorem dX3_lowFloor_38 : decode cX3_lowFloor 38 = .ok (.if_icmp .ge 12, 3) := by decide +kernel
theorem dX3_lowFloor_41 : decode cX3_lowFloor 41 = .ok (.aload_n 0, 1) := by decide +kernel
theorem dX3_lowFloor_42 : decode cX3_lowFloor 42 = .ok (.getfield 29, 3) := by decide +kernel
theorem dX3_lowFloor_45 : decode cX3_lowFloor 45 = .ok (.iload_n 3, 1) := by decide +kernel
theorem dX3_lowFloor_46 : decode cX3_lowFloor 46 = .ok (.iaload, 1) := by decide +kernel
theorem dX3_lowFloor_47 : decode cX3_lowFloor 47 = .ok (.goto 4, 3) := by decide +kernel
theorem dX3_lowFloor_50 : decode cX3_lowFloor 50 = .ok (.iload_n 2, 1) := by decide +kernel
theorem dX3_lowFloor_51 : decode cX3_lowFloor 51 = .ok (.istore_n 2, 1) := by decide +kernel
theorem dX3_lowFloor_52 : decode cX3_lowFloor 52 = .ok (.iinc 3 1, 3) := by decide +kernel
theorem dX3_lowFloor_55 : decode cX3_lowFloor 55 = .ok (.goto (-46), 3) := by decide +kernel
theorem dX3_lowFloor_58 : decode cX3_lowFloor 58 = .ok (.iload_n 2, 1) := by decide +kernel
theorem dX3_lowFloor_59 : decode cX3_lowFloor 59 = .ok (.ireturn, 1) := by decide +kernel
theorem dX3_highFloor_0 : decode cX3_highFloor 0 = .ok (.aload_n 0, 1) := by decide +kernel
theorem dX3_highFloor_1 : decode cX3_highFloor 1 = .ok (.getfield 29, 3) := by decide +kernel
theorem dX3_highFloor_4 : decode cX3_highFloor 4 = .ok (.iload_n 1, 1) := by decide +kernel
theorem dX3_highFloor_5 : decode cX3_highFloor 5 = .ok (.iaload, 1) := by decide +kernel
theorem dX3_highFloor_6 : decode cX3_highFloor 6 = .ok (.istore_n 2, 1) := by decide +kernel
theorem dX3_highFloor_7 : decode cX3_highFloor 7 = .ok (.iconst 0, 1) := by decide +kernel
theorem dX3_highFloor_8 : decode cX3_highFloor 8 = .ok (.istore_n 3, 1) := by decide +kernel
theorem dX3_highFloor_9 : decode cX3_highFloor 9 = .ok (.iload_n 3, 1) := by decide +kernel
theorem dX3_highFloor_10 : decode cX3_highFloor 10 = .ok (.aload_n 0, 1) := by decide +kernel
theorem dX3_highFloor_11 : decode cX3_highFloor 11 = .ok (.getfield 57, 3) := by decide +kernel
theorem dX3_highFloor_14 : decode cX3_highFloor 14 = .ok (.if_icmp .ge 44, 3) := by decide +kernel
theorem dX3_highFloor_17 : decode cX3_highFloor 17 = .ok (.aload_n 0, 1) := by decide +kernel
theorem dX3_highFloor_18 : decode cX3_highFloor 18 = .ok (.getfield 25, 3) := by decide +kernel
theorem dX3_highFloor_21 : decode cX3_highFloor 21 = .ok (.bipush 32, 2) := by decide +kernel
theorem dX3_highFloor_23 : decode cX3_highFloor 23 = .ok (.iload_n 1, 1) := by decide +kernel
theorem dX3_highFloor_24 : decode cX3_highFloor 24 = .ok (.imul, 1) := by decide +kernel
theorem dX3_highFloor_25 : decode cX3_highFloor 25 = .ok (.iload_n 3, 1) := by decide +kernel
theorem dX3_highFloor_26 : decode cX3_highFloor 26 = .ok (.iadd, 1) := by decide +kernel
theorem dX3_highFloor_27 : decode cX3_highFloor 27 = .ok (.baload, 1) := by decide +kernel
theorem dX3_highFloor_28 : decode cX3_highFloor 28 = .ok (.ifCond .eq 22, 3) := by decide +kernel
theorem dX3_highFloor_31 : decode cX3_highFloor 31 = .ok (.aload_n 0, 1) := by decide +kernel
theorem dX3_highFloor_32 : decode cX3_highFloor 32 = .ok (.getfield 29, 3) := by decide +kernel
theorem dX3_highFloor_35 : decode cX3_highFloor 35 = .ok (.iload_n 3, 1) := by decide +kernel
theorem dX3_highFloor_36 : decode cX3_highFloor 36 = .ok (.iaload, 1) := by decide +kernel
theorem dX3_highFloor_37 : decode cX3_highFloor 37 = .ok (.iload_n 2, 1) := by decide +kernel
theorem dX3_highFloor_38 : decode cX3_highFloor 38 = .ok (.if_icmp .le 12, 3) := by decide +kernel
theorem dX3_highFloor_41 : decode cX3_highFloor 41 = .ok (.aload_n 0, 1) := by decide +kernel
theorem dX3_highFloor_42 : decode cX3_highFloor 42 = .ok (.getfield 29, 3) := by decide +kernel
theorem dX3_highFloor_45 : decode cX3_highFloor 45 = .ok (.iload_n 3, 1) := by decide +kernel
theorem dX3_highFloor_46 : decode cX3_highFloor 46 = .ok (.iaload, 1) := by decide +kernel
theorem dX3_highFloor_47 : decode cX3_highFloor 47 = .ok (.goto 4, 3) := by decide +kernel
theorem dX3_highFloor_50 : decode cX3_highFloor 50 = .ok (.iload_n 2, 1) := by decide +kernel
theorem dX3_highFloor_51 : decode cX3_highFloor 51 = .ok (.istore_n 2, 1) := by decide +kernel
theorem dX3_highFloor_52 : decode cX3_highFloor 52 = .ok (.iinc 3 1, 3) := by decide +kernel
theorem dX3_highFloor_55 : decode cX3_highFloor 55 = .ok (.goto (-46), 3) := by decide +kernel
theorem dX3_highFloor_58 : decode cX3_highFloor 58 = .ok (.iload_n 2, 1) := by decide +kernel
theorem dX3_highFloor_59 : decode cX3_highFloor 59 = .ok (.ireturn, 1) := by decide +kernel
theorem dX3_lowCeiling_0 : decode cX3_lowCeiling 0 = .ok (.ldc 76, 2) := by decide +kernel
theorem dX3_lowCeiling_2 : decode cX3_lowCeiling 2 = .ok (.istore_n 2, 1) := by decide +kernel
theorem dX3_lowCeiling_3 : decode cX3_lowCeiling 3 = .ok (.iconst 0, 1) := by decide +kernel
theorem dX3_lowCeiling_4 : decode cX3_lowCeiling 4 = .ok (.istore_n 3, 1) := by decide +kernel
theorem dX3_lowCeiling_5 : decode cX3_lowCeiling 5 = .ok (.iload_n 3, 1) := by decide +kernel
theorem dX3_lowCeiling_6 : decode cX3_lowCeiling 6 = .ok (.aload_n 0, 1) := by decide +kernel
theorem dX3_lowCeiling_7 : decode cX3_lowCeiling 7 = .ok (.getfield 57, 3) := by decide +kernel
theorem dX3_lowCeiling_10 : decode cX3_lowCeiling 10 = .ok (.if_icmp .ge 44, 3) := by decide +kernel
theorem dX3_lowCeiling_13 : decode cX3_lowCeiling 13 = .ok (.aload_n 0, 1) := by decide +kernel
theorem dX3_lowCeiling_14 : decode cX3_lowCeiling 14 = .ok (.getfield 25, 3) := by decide +kernel
theorem dX3_lowCeiling_17 : decode cX3_lowCeiling 17 = .ok (.bipush 32, 2) := by decide +kernel
theorem dX3_lowCeiling_19 : decode cX3_lowCeiling 19 = .ok (.iload_n 1, 1) := by decide +kernel
theorem dX3_lowCeiling_20 : decode cX3_lowCeiling 20 = .ok (.imul, 1) := by decide +kernel
theorem dX3_lowCeiling_21 : decode cX3_lowCeiling 21 = .ok (.iload_n 3, 1) := by decide +kernel
theorem dX3_lowCeiling_22 : decode cX3_lowCeiling 22 = .ok (.iadd, 1) := by decide +kernel
theorem dX3_lowCeiling_23 : decode cX3_lowCeiling 23 = .ok (.baload, 1) := by decide +kernel
theorem dX3_lowCeiling_24 : decode cX3_lowCeiling 24 = .ok (.ifCond .eq 22, 3) := by decide +kernel
theorem dX3_lowCeiling_27 : decode cX3_lowCeiling 27 = .ok (.aload_n 0, 1) := by decide +kernel
theorem dX3_lowCeiling_28 : decode cX3_lowCeiling 28 = .ok (.getfield 32, 3) := by decide +kernel
theorem dX3_lowCeiling_31 : decode cX3_lowCeiling 31 = .ok (.iload_n 3, 1) := by decide +kernel
theorem dX3_lowCeiling_32 : decode cX3_lowCeiling 32 = .ok (.iaload, 1) := by decide +kernel
theorem dX3_lowCeiling_33 : decode cX3_lowCeiling 33 = .ok (.iload_n 2, 1) := by decide +kernel
theorem dX3_lowCeiling_34 : decode cX3_lowCeiling 34 = .ok (.if_icmp .ge 12, 3) := by decide +kernel
theorem dX3_lowCeiling_37 : decode cX3_lowCeiling 37 = .ok (.aload_n 0, 1) := by decide +kernel
theorem dX3_lowCeiling_38 : decode cX3_lowCeiling 38 = .ok (.getfield 32, 3) := by decide +kernel
theorem dX3_lowCeiling_41 : decode cX3_lowCeiling 41 = .ok (.iload_n 3, 1) := by decide +kernel
theorem dX3_lowCeiling_42 : decode cX3_lowCeiling 42 = .ok (.iaload, 1) := by decide +kernel
theorem dX3_lowCeiling_43 : decode cX3_lowCeiling 43 = .ok (.goto 4, 3) := by decide +kernel
theorem dX3_lowCeiling_46 : decode cX3_lowCeiling 46 = .ok (.iload_n 2, 1) := by decide +kernel
theorem dX3_lowCeiling_47 : decode cX3_lowCeiling 47 = .ok (.istore_n 2, 1) := by decide +kernel
theorem dX3_lowCeiling_48 : decode cX3_lowCeiling 48 = .ok (.iinc 3 1, 3) := by decide +kernel
theorem dX3_lowCeiling_51 : decode cX3_lowCeiling 51 = .ok (.goto (-46), 3) := by decide +kernel
theorem dX3_lowCeiling_54 : decode cX3_lowCeiling 54 = .ok (.iload_n 2, 1) := by decide +kernel
theorem dX3_lowCeiling_55 : decode cX3_lowCeiling 55 = .ok (.ldc 76, 2) := by decide +kernel
theorem dX3_lowCeiling_57 : decode cX3_lowCeiling 57 = .ok (.if_icmp .ne 12, 3) := by decide +kernel
theorem dX3_lowCeiling_60 : decode cX3_lowCeiling 60 = .ok (.aload_n 0, 1) := by decide +kernel
theorem dX3_lowCeiling_61 : decode cX3_lowCeiling 61 = .ok (.getfield 32, 3) := by decide +kernel
theorem dX3_lowCeiling_64 : decode cX3_lowCeiling 64 = .ok (.iload_n 1, 1) := by decide +kernel
theorem dX3_lowCeiling_65 : decode cX3_lowCeiling 65 = .ok (.iaload, 1) := by decide +kernel
theorem dX3_lowCeiling_66 : decode cX3_lowCeiling 66 = .ok (.goto 4, 3) := by decide +kernel
theorem dX3_lowCeiling_69 : decode cX3_lowCeiling 69 = .ok (.iload_n 2, 1) := by decide +kernel
theorem dX3_lowCeiling_70 : decode cX3_lowCeiling 70 = .ok (.ireturn, 1) := by decide +kernel
theorem dX3_begin_0 : decode cX3_begin 0 = .ok (.aload_n 0, 1) := by decide +kernel
theorem dX3_begin_1 : decode cX3_begin 1 = .ok (.iconst 0, 1) := by decide +kernel
theorem dX3_begin_2 : decode cX3_begin 2 = .ok (.putfield 54, 3) := by decide +kernel
theorem dX3_begin_5 : decode cX3_begin 5 = .ok (.aload_n 0, 1) := by decide +kernel
theorem dX3_begin_6 : decode cX3_begin 6 = .ok (.iload_n 1, 1) := by decide +kernel
theorem dX3_begin_7 : decode cX3_begin 7 = .ok (.invokevirtual 63, 3) := by decide +kernel
theorem dX3_begin_10 : decode cX3_begin 10 = .ok (.ifCond .eq 12, 3) := by decide +kernel
theorem dX3_begin_13 : decode cX3_begin 13 = .ok (.iload_n 2, 1) := by decide +kernel
theorem dX3_begin_14 : decode cX3_begin 14 = .ok (.ifCond .lt 8, 3) := by decide +kernel
theorem dX3_begin_17 : decode cX3_begin 17 = .ok (.iload_n 2, 1) := by decide +kernel
theorem dX3_begin_18 : decode cX3_begin 18 = .ok (.iconst 2, 1) := by decide +kernel
theorem dX3_begin_19 : decode cX3_begin 19 = .ok (.if_icmp .le 5, 3) := by decide +kernel
theorem dX3_begin_22 : decode cX3_begin 22 = .ok (.iconst 0, 1) := by decide +kernel
theorem dX3_begin_23 : decode cX3_begin 23 = .ok (.ireturn, 1) := by decide +kernel
theorem dX3_begin_24 : decode cX3_begin 24 = .ok (.aload_n 0, 1) := by decide +kernel
theorem dX3_begin_25 : decode cX3_begin 25 = .ok (.getfield 35, 3) := by decide +kernel
theorem dX3_begin_28 : decode cX3_begin 28 = .ok (.iload_n 1, 1) := by decide +kernel
theorem dX3_begin_29 : decode cX3_begin 29 = .ok (.iaload, 1) := by decide +kernel
theorem dX3_begin_30 : decode cX3_begin 30 = .ok (.ifCond .lt 74, 3) := by decide +kernel
theorem dX3_begin_33 : decode cX3_begin 33 = .ok (.iload_n 2, 1) := by decide +kernel
theorem dX3_begin_34 : decode cX3_begin 34 = .ok (.ifCond .ne 26, 3) := by decide +kernel
theorem dX3_begin_37 : decode cX3_begin 37 = .ok (.aload_n 0, 1) := by decide +kernel
theorem dX3_begin_38 : decode cX3_begin 38 = .ok (.getfield 35, 3) := by decide +kernel
theorem dX3_begin_41 : decode cX3_begin 41 = .ok (.iload_n 1, 1) := by decide +kernel
theorem dX3_begin_42 : decode cX3_begin 42 = .ok (.iaload, 1) := by decide +kernel
theorem dX3_begin_43 : decode cX3_begin 43 = .ok (.ifCond .ne 17, 3) := by decide +kernel
theorem dX3_begin_46 : decode cX3_begin 46 = .ok (.aload_n 0, 1) := by decide +kernel
theorem dX3_begin_47 : decode cX3_begin 47 = .ok (.getfield 38, 3) := by decide +kernel
theorem dX3_begin_50 : decode cX3_begin 50 = .ok (.iload_n 1, 1) := by decide +kernel
theorem dX3_begin_51 : decode cX3_begin 51 = .ok (.iaload, 1) := by decide +kernel
theorem dX3_begin_52 : decode cX3_begin 52 = .ok (.iconst 1, 1) := by decide +kernel
theorem dX3_begin_53 : decode cX3_begin 53 = .ok (.if_icmp .ge 7, 3) := by decide +kernel
theorem dX3_begin_56 : decode cX3_begin 56 = .ok (.iconst 1, 1) := by decide +kernel
theorem dX3_begin_57 : decode cX3_begin 57 = .ok (.goto 4, 3) := by decide +kernel
theorem dX3_begin_60 : decode cX3_begin 60 = .ok (.iconst 0, 1) := by decide +kernel
theorem dX3_begin_61 : decode cX3_begin 61 = .ok (.istore_n 3, 1) := by decide +kernel
theorem dX3_begin_62 : decode cX3_begin 62 = .ok (.aload_n 0, 1) := by decide +kernel
theorem dX3_begin_63 : decode cX3_begin 63 = .ok (.getfield 38, 3) := by decide +kernel
theorem dX3_begin_66 : decode cX3_begin 66 = .ok (.iload_n 1, 1) := by decide +kernel
theorem dX3_begin_67 : decode cX3_begin 67 = .ok (.iload_n 3, 1) := by decide +kernel
theorem dX3_begin_68 : decode cX3_begin 68 = .ok (.ifCond .eq 7, 3) := by decide +kernel
theorem dX3_begin_71 : decode cX3_begin 71 = .ok (.iconst 1, 1) := by decide +kernel
theorem dX3_begin_72 : decode cX3_begin 72 = .ok (.goto 9, 3) := by decide +kernel
theorem dX3_begin_75 : decode cX3_begin 75 = .ok (.aload_n 0, 1) := by decide +kernel
theorem dX3_begin_76 : decode cX3_begin 76 = .ok (.getfield 38, 3) := by decide +kernel
theorem dX3_begin_79 : decode cX3_begin 79 = .ok (.iload_n 1, 1) := by decide +kernel
theorem dX3_begin_80 : decode cX3_begin 80 = .ok (.iaload, 1) := by decide +kernel
theorem dX3_begin_81 : decode cX3_begin 81 = .ok (.iastore, 1) := by decide +kernel
theorem dX3_begin_82 : decode cX3_begin 82 = .ok (.aload_n 0, 1) := by decide +kernel
theorem dX3_begin_83 : decode cX3_begin 83 = .ok (.getfield 41, 3) := by decide +kernel
theorem dX3_begin_86 : decode cX3_begin 86 = .ok (.iload_n 1, 1) := by decide +kernel
theorem dX3_begin_87 : decode cX3_begin 87 = .ok (.iload_n 3, 1) := by decide +kernel
theorem dX3_begin_88 : decode cX3_begin 88 = .ok (.ifCond .eq 7, 3) := by decide +kernel
theorem dX3_begin_91 : decode cX3_begin 91 = .ok (.iconst 0, 1) := by decide +kernel
theorem dX3_begin_92 : decode cX3_begin 92 = .ok (.goto 9, 3) := by decide +kernel
theorem dX3_begin_95 : decode cX3_begin 95 = .ok (.aload_n 0, 1) := by decide +kernel
theorem dX3_begin_96 : decode cX3_begin 96 = .ok (.getfield 41, 3) := by decide +kernel
theorem dX3_begin_99 : decode cX3_begin 99 = .ok (.iload_n 1, 1) := by decide +kernel
theorem dX3_begin_100 : decode cX3_begin 100 = .ok (.iaload, 1) := by decide +kernel
theorem dX3_begin_101 : decode cX3_begin 101 = .ok (.iastore, 1) := by decide +kernel
theorem dX3_begin_102 : decode cX3_begin 102 = .ok (.iload_n 3, 1) := by decide +kernel
theorem dX3_begin_103 : decode cX3_begin 103 = .ok (.ireturn, 1) := by decide +kernel
theorem dX3_begin_104 : decode cX3_begin 104 = .ok (.aload_n 0, 1) := by decide +kernel
theorem dX3_begin_105 : decode cX3_begin 105 = .ok (.getfield 35, 3) := by decide +kernel
theorem dX3_begin_108 : decode cX3_begin 108 = .ok (.iload_n 1, 1) := by decide +kernel
theorem dX3_begin_109 : decode cX3_begin 109 = .ok (.iload_n 2, 1) := by decide +kernel
theorem dX3_begin_110 : decode cX3_begin 110 = .ok (.iastore, 1) := by decide +kernel
theorem dX3_begin_111 : decode cX3_begin 111 = .ok (.aload_n 0, 1) := by decide +kernel
theorem dX3_begin_112 : decode cX3_begin 112 = .ok (.getfield 41, 3) := by decide +kernel
theorem dX3_begin_115 : decode cX3_begin 115 = .ok (.iload_n 1, 1) := by decide +kernel
theorem dX3_begin_116 : decode cX3_begin 116 = .ok (.iconst 0, 1) := by decide +kernel
theorem dX3_begin_117 : decode cX3_begin 117 = .ok (.iastore, 1) := by decide +kernel
theorem dX3_begin_118 : decode cX3_begin 118 = .ok (.aload_n 0, 1) := by decide +kernel
theorem dX3_begin_119 : decode cX3_begin 119 = .ok (.getfield 38, 3) := by decide +kernel
theorem dX3_begin_122 : decode cX3_begin 122 = .ok (.iload_n 1, 1) := by decide +kernel
theorem dX3_begin_123 : decode cX3_begin 123 = .ok (.iload_n 2, 1) := by decide +kernel
theorem dX3_begin_124 : decode cX3_begin 124 = .ok (.iconst 1, 1) := by decide +kernel
theorem dX3_begin_125 : decode cX3_begin 125 = .ok (.if_icmp .ne 7, 3) := by decide +kernel
theorem dX3_begin_128 : decode cX3_begin 128 = .ok (.iconst (-1), 1) := by decide +kernel
theorem dX3_begin_129 : decode cX3_begin 129 = .ok (.goto 4, 3) := by decide +kernel
theorem dX3_begin_132 : decode cX3_begin 132 = .ok (.iconst 1, 1) := by decide +kernel
theorem dX3_begin_133 : decode cX3_begin 133 = .ok (.iastore, 1) := by decide +kernel
theorem dX3_begin_134 : decode cX3_begin 134 = .ok (.aload_n 0, 1) := by decide +kernel
theorem dX3_begin_135 : decode cX3_begin 135 = .ok (.getfield 47, 3) := by decide +kernel
theorem dX3_begin_138 : decode cX3_begin 138 = .ok (.iload_n 1, 1) := by decide +kernel
theorem dX3_begin_139 : decode cX3_begin 139 = .ok (.aload_n 0, 1) := by decide +kernel
theorem dX3_begin_140 : decode cX3_begin 140 = .ok (.getfield 29, 3) := by decide +kernel
theorem dX3_begin_143 : decode cX3_begin 143 = .ok (.iload_n 1, 1) := by decide +kernel
theorem dX3_begin_144 : decode cX3_begin 144 = .ok (.iaload, 1) := by decide +kernel
theorem dX3_begin_145 : decode cX3_begin 145 = .ok (.iastore, 1) := by decide +kernel
theorem dX3_begin_146 : decode cX3_begin 146 = .ok (.aload_n 0, 1) := by decide +kernel
theorem dX3_begin_147 : decode cX3_begin 147 = .ok (.iload_n 1, 1) := by decide +kernel
theorem dX3_begin_148 : decode cX3_begin 148 = .ok (.invokevirtual 77, 3) := by decide +kernel
theorem dX3_begin_151 : decode cX3_begin 151 = .ok (.iconst 4, 1) := by decide +kernel
theorem dX3_begin_152 : decode cX3_begin 152 = .ok (.isub, 1) := by decide +kernel
theorem dX3_begin_153 : decode cX3_begin 153 = .ok (.istore_n 3, 1) := by decide +kernel
theorem dX3_begin_154 : decode cX3_begin 154 = .ok (.aload_n 0, 1) := by decide +kernel
theorem dX3_begin_155 : decode cX3_begin 155 = .ok (.iload_n 1, 1) := by decide +kernel
theorem dX3_begin_156 : decode cX3_begin 156 = .ok (.invokevirtual 81, 3) := by decide +kernel
theorem dX3_begin_159 : decode cX3_begin 159 = .ok (.istore 4, 2) := by decide +kernel
theorem dX3_begin_161 : decode cX3_begin 161 = .ok (.aload_n 0, 1) := by decide +kernel
theorem dX3_begin_162 : decode cX3_begin 162 = .ok (.getfield 44, 3) := by decide +kernel
theorem dX3_begin_165 : decode cX3_begin 165 = .ok (.iload_n 1, 1) := by decide +kernel
theorem dX3_begin_166 : decode cX3_begin 166 = .ok (.iload_n 2, 1) := by decide +kernel
theorem dX3_begin_167 : decode cX3_begin 167 = .ok (.ifCond .ne 26, 3) := by decide +kernel
theorem dX3_begin_170 : decode cX3_begin 170 = .ok (.iload_n 3, 1) := by decide +kernel
theorem dX3_begin_171 : decode cX3_begin 171 = .ok (.aload_n 0, 1) := by decide +kernel
theorem dX3_begin_172 : decode cX3_begin 172 = .ok (.getfield 32, 3) := by decide +kernel
theorem dX3_begin_175 : decode cX3_begin 175 = .ok (.iload_n 1, 1) := by decide +kernel
theorem dX3_begin_176 : decode cX3_begin 176 = .ok (.iaload, 1) := by decide +kernel
theorem dX3_begin_177 : decode cX3_begin 177 = .ok (.if_icmp .le 7, 3) := by decide +kernel
theorem dX3_begin_180 : decode cX3_begin 180 = .ok (.iload_n 3, 1) := by decide +kernel
theorem dX3_begin_181 : decode cX3_begin 181 = .ok (.goto 47, 3) := by decide +kernel
theorem dX3_begin_184 : decode cX3_begin 184 = .ok (.aload_n 0, 1) := by decide +kernel
theorem dX3_begin_185 : decode cX3_begin 185 = .ok (.getfield 32, 3) := by decide +kernel
theorem dX3_begin_188 : decode cX3_begin 188 = .ok (.iload_n 1, 1) := by decide +kernel
theorem dX3_begin_189 : decode cX3_begin 189 = .ok (.iaload, 1) := by decide +kernel
theorem dX3_begin_190 : decode cX3_begin 190 = .ok (.goto 38, 3) := by decide +kernel
theorem dX3_begin_193 : decode cX3_begin 193 = .ok (.iload_n 2, 1) := by decide +kernel
theorem dX3_begin_194 : decode cX3_begin 194 = .ok (.iconst 1, 1) := by decide +kernel
theorem dX3_begin_195 : decode cX3_begin 195 = .ok (.if_icmp .ne 11, 3) := by decide +kernel
theorem dX3_begin_198 : decode cX3_begin 198 = .ok (.aload_n 0, 1) := by decide +kernel
theorem dX3_begin_199 : decode cX3_begin 199 = .ok (.iload_n 1, 1) := by decide +kernel
theorem dX3_begin_200 : decode cX3_begin 200 = .ok (.invokevirtual 84, 3) := by decide +kernel
theorem dX3_begin_203 : decode cX3_begin 203 = .ok (.goto 25, 3) := by decide +kernel
theorem dX3_begin_206 : decode cX3_begin 206 = .ok (.iload 4, 2) := by decide +kernel
theorem dX3_begin_208 : decode cX3_begin 208 = .ok (.aload_n 0, 1) := by decide +kernel
theorem dX3_begin_209 : decode cX3_begin 209 = .ok (.getfield 32, 3) := by decide +kernel
theorem dX3_begin_212 : decode cX3_begin 212 = .ok (.iload_n 1, 1) := by decide +kernel
theorem dX3_begin_213 : decode cX3_begin 213 = .ok (.iaload, 1) := by decide +kernel
theorem dX3_begin_214 : decode cX3_begin 214 = .ok (.if_icmp .ge 8, 3) := by decide +kernel
theorem dX3_begin_217 : decode cX3_begin 217 = .ok (.iload 4, 2) := by decide +kernel
theorem dX3_begin_219 : decode cX3_begin 219 = .ok (.goto 9, 3) := by decide +kernel
theorem dX3_begin_222 : decode cX3_begin 222 = .ok (.aload_n 0, 1) := by decide +kernel
theorem dX3_begin_223 : decode cX3_begin 223 = .ok (.getfield 32, 3) := by decide +kernel
theorem dX3_begin_226 : decode cX3_begin 226 = .ok (.iload_n 1, 1) := by decide +kernel
theorem dX3_begin_227 : decode cX3_begin 227 = .ok (.iaload, 1) := by decide +kernel
theorem dX3_begin_228 : decode cX3_begin 228 = .ok (.iastore, 1) := by decide +kernel
theorem dX3_begin_229 : decode cX3_begin 229 = .ok (.iconst 1, 1) := by decide +kernel
theorem dX3_begin_230 : decode cX3_begin 230 = .ok (.ireturn, 1) := by decide +kernel
theorem dX3_tag_0 : decode cX3_tag 0 = .ok (.aload_n 0, 1) := by decide +kernel
theorem dX3_tag_1 : decode cX3_tag 1 = .ok (.iconst 0, 1) := by decide +kernel
theorem dX3_tag_2 : decode cX3_tag 2 = .ok (.putfield 54, 3) := by decide +kernel
theorem dX3_tag_5 : decode cX3_tag 5 = .ok (.iload_n 1, 1) := by decide +kernel
theorem dX3_tag_6 : decode cX3_tag 6 = .ok (.ifCond .lt 19, 3) := by decide +kernel
theorem dX3_tag_9 : decode cX3_tag 9 = .ok (.iload_n 1, 1) := by decide +kernel
theorem dX3_tag_10 : decode cX3_tag 10 = .ok (.sipush 255, 3) := by decide +kernel
theorem dX3_tag_13 : decode cX3_tag 13 = .ok (.if_icmp .gt 12, 3) := by decide +kernel
theorem dX3_tag_16 : decode cX3_tag 16 = .ok (.iload_n 2, 1) := by decide +kernel
theorem dX3_tag_17 : decode cX3_tag 17 = .ok (.ifCond .lt 8, 3) := by decide +kernel
theorem dX3_tag_20 : decode cX3_tag 20 = .ok (.iload_n 2, 1) := by decide +kernel
theorem dX3_tag_21 : decode cX3_tag 21 = .ok (.iconst 2, 1) := by decide +kernel
theorem dX3_tag_22 : decode cX3_tag 22 = .ok (.if_icmp .le 5, 3) := by decide +kernel
theorem dX3_tag_25 : decode cX3_tag 25 = .ok (.iconst (-1), 1) := by decide +kernel
theorem dX3_tag_26 : decode cX3_tag 26 = .ok (.ireturn, 1) := by decide +kernel
theorem dX3_tag_27 : decode cX3_tag 27 = .ok (.iconst 0, 1) := by decide +kernel
theorem dX3_tag_28 : decode cX3_tag 28 = .ok (.istore_n 3, 1) := by decide +kernel
theorem dX3_tag_29 : decode cX3_tag 29 = .ok (.iconst 0, 1) := by decide +kernel
theorem dX3_tag_30 : decode cX3_tag 30 = .ok (.istore 4, 2) := by decide +kernel
theorem dX3_tag_32 : decode cX3_tag 32 = .ok (.iload 4, 2) := by decide +kernel
theorem dX3_tag_34 : decode cX3_tag 34 = .ok (.aload_n 0, 1) := by decide +kernel
theorem dX3_tag_35 : decode cX3_tag 35 = .ok (.getfield 57, 3) := by decide +kernel
theorem dX3_tag_38 : decode cX3_tag 38 = .ok (.if_icmp .ge 38, 3) := by decide +kernel
theorem dX3_tag_41 : decode cX3_tag 41 = .ok (.iload_n 3, 1) := by decide +kernel
theorem dX3_tag_42 : decode cX3_tag 42 = .ok (.aload_n 0, 1) := by decide +kernel
theorem dX3_tag_43 : decode cX3_tag 43 = .ok (.getfield 22, 3) := by decide +kernel
theorem dX3_tag_46 : decode cX3_tag 46 = .ok (.iload 4, 2) := by decide +kernel
theorem dX3_tag_48 : decode cX3_tag 48 = .ok (.iaload, 1) := by decide +kernel
theorem dX3_tag_49 : decode cX3_tag 49 = .ok (.iload_n 1, 1) := by decide +kernel
theorem dX3_tag_50 : decode cX3_tag 50 = .ok (.if_icmp .ne 17, 3) := by decide +kernel
theorem dX3_tag_53 : decode cX3_tag 53 = .ok (.aload_n 0, 1) := by decide +kernel
theorem dX3_tag_54 : decode cX3_tag 54 = .ok (.iload 4, 2) := by decide +kernel
theorem dX3_tag_56 : decode cX3_tag 56 = .ok (.iload_n 2, 1) := by decide +kernel
theorem dX3_tag_57 : decode cX3_tag 57 = .ok (.invokevirtual 87, 3) := by decide +kernel
theorem dX3_tag_60 : decode cX3_tag 60 = .ok (.ifCond .eq 7, 3) := by decide +kernel
theorem dX3_tag_63 : decode cX3_tag 63 = .ok (.iconst 1, 1) := by decide +kernel
theorem dX3_tag_64 : decode cX3_tag 64 = .ok (.goto 4, 3) := by decide +kernel
theorem dX3_tag_67 : decode cX3_tag 67 = .ok (.iconst 0, 1) := by decide +kernel
theorem dX3_tag_68 : decode cX3_tag 68 = .ok (.iadd, 1) := by decide +kernel
theorem dX3_tag_69 : decode cX3_tag 69 = .ok (.istore_n 3, 1) := by decide +kernel
theorem dX3_tag_70 : decode cX3_tag 70 = .ok (.iinc 4 1, 3) := by decide +kernel
theorem dX3_tag_73 : decode cX3_tag 73 = .ok (.goto (-41), 3) := by decide +kernel
theorem dX3_tag_76 : decode cX3_tag 76 = .ok (.iload_n 3, 1) := by decide +kernel
theorem dX3_tag_77 : decode cX3_tag 77 = .ok (.ireturn, 1) := by decide +kernel
theorem dX3_enter_0 : decode cX3_enter 0 = .ok (.aload_n 0, 1) := by decide +kernel
theorem dX3_enter_1 : decode cX3_enter 1 = .ok (.iconst 0, 1) := by decide +kernel
theorem dX3_enter_2 : decode cX3_enter 2 = .ok (.putfield 54, 3) := by decide +kernel
theorem dX3_enter_5 : decode cX3_enter 5 = .ok (.iload_n 1, 1) := by decide +kernel
theorem dX3_enter_6 : decode cX3_enter 6 = .ok (.iconst (-1), 1) := by decide +kernel
theorem dX3_enter_7 : decode cX3_enter 7 = .ok (.if_icmp .eq 13, 3) := by decide +kernel
theorem dX3_enter_10 : decode cX3_enter 10 = .ok (.aload_n 0, 1) := by decide +kernel
theorem dX3_enter_11 : decode cX3_enter 11 = .ok (.iload_n 1, 1) := by decide +kernel
theorem dX3_enter_12 : decode cX3_enter 12 = .ok (.invokevirtual 63, 3) := by decide +kernel
end
section
theorem dX3_enter_15 : decode cX3_enter 15 = .ok (.ifCond .ne 5, 3) := by decide +kernel
theorem dX3_enter_18 : decode cX3_enter 18 = .ok (.iconst 0, 1) := by decide +kernel
theorem dX3_enter_19 : decode cX3_enter 19 = .ok (.ireturn, 1) := by decide +kernel
theorem dX3_enter_20 : decode cX3_enter 20 = .ok (.aload_n 0, 1) := by decide +kernel
theorem dX3_enter_21 : decode cX3_enter 21 = .ok (.iload_n 1, 1) := by decide +kernel
theorem dX3_enter_22 : decode cX3_enter 22 = .ok (.putfield 50, 3) := by decide +kernel
theorem dX3_enter_25 : decode cX3_enter 25 = .ok (.iconst 1, 1) := by decide +kernel
theorem dX3_enter_26 : decode cX3_enter 26 = .ok (.ireturn, 1) := by decide +kernel
theorem dX3_end_0 : decode cX3_end 0 = .ok (.aload_n 0, 1) := by decide +kernel
theorem dX3_end_1 : decode cX3_end 1 = .ok (.getfield 35, 3) := by decide +kernel
theorem dX3_end_4 : decode cX3_end 4 = .ok (.iload_n 1, 1) := by decide +kernel
theorem dX3_end_5 : decode cX3_end 5 = .ok (.iconst (-1), 1) := by decide +kernel
theorem dX3_end_6 : decode cX3_end 6 = .ok (.iastore, 1) := by decide +kernel
theorem dX3_end_7 : decode cX3_end 7 = .ok (.aload_n 0, 1) := by decide +kernel
theorem dX3_end_8 : decode cX3_end 8 = .ok (.getfield 38, 3) := by decide +kernel
theorem dX3_end_11 : decode cX3_end 11 = .ok (.iload_n 1, 1) := by decide +kernel
theorem dX3_end_12 : decode cX3_end 12 = .ok (.iconst 0, 1) := by decide +kernel
theorem dX3_end_13 : decode cX3_end 13 = .ok (.iastore, 1) := by decide +kernel
theorem dX3_end_14 : decode cX3_end 14 = .ok (.aload_n 0, 1) := by decide +kernel
theorem dX3_end_15 : decode cX3_end 15 = .ok (.getfield 44, 3) := by decide +kernel
theorem dX3_end_18 : decode cX3_end 18 = .ok (.iload_n 1, 1) := by decide +kernel
theorem dX3_end_19 : decode cX3_end 19 = .ok (.iconst (-1), 1) := by decide +kernel
theorem dX3_end_20 : decode cX3_end 20 = .ok (.iastore, 1) := by decide +kernel
theorem dX3_end_21 : decode cX3_end 21 = .ok (.return_, 1) := by decide +kernel
theorem dX3_await_0 : decode cX3_await 0 = .ok (.aload_n 0, 1) := by decide +kernel
theorem dX3_await_1 : decode cX3_await 1 = .ok (.getfield 38, 3) := by decide +kernel
theorem dX3_await_4 : decode cX3_await 4 = .ok (.iload_n 1, 1) := by decide +kernel
theorem dX3_await_5 : decode cX3_await 5 = .ok (.iconst 0, 1) := by decide +kernel
theorem dX3_await_6 : decode cX3_await 6 = .ok (.iastore, 1) := by decide +kernel
theorem dX3_await_7 : decode cX3_await 7 = .ok (.aload_n 0, 1) := by decide +kernel
theorem dX3_await_8 : decode cX3_await 8 = .ok (.getfield 41, 3) := by decide +kernel
theorem dX3_await_11 : decode cX3_await 11 = .ok (.iload_n 1, 1) := by decide +kernel
theorem dX3_await_12 : decode cX3_await 12 = .ok (.iload_n 2, 1) := by decide +kernel
theorem dX3_await_13 : decode cX3_await 13 = .ok (.iastore, 1) := by decide +kernel
theorem dX3_await_14 : decode cX3_await 14 = .ok (.return_, 1) := by decide +kernel
theorem dX3_stepDoor_0 : decode cX3_stepDoor 0 = .ok (.aload_n 0, 1) := by decide +kernel
theorem dX3_stepDoor_1 : decode cX3_stepDoor 1 = .ok (.getfield 32, 3) := by decide +kernel
theorem dX3_stepDoor_4 : decode cX3_stepDoor 4 = .ok (.iload_n 1, 1) := by decide +kernel
theorem dX3_stepDoor_5 : decode cX3_stepDoor 5 = .ok (.iaload, 1) := by decide +kernel
theorem dX3_stepDoor_6 : decode cX3_stepDoor 6 = .ok (.bipush 8, 2) := by decide +kernel
theorem dX3_stepDoor_8 : decode cX3_stepDoor 8 = .ok (.aload_n 0, 1) := by decide +kernel
theorem dX3_stepDoor_9 : decode cX3_stepDoor 9 = .ok (.getfield 38, 3) := by decide +kernel
theorem dX3_stepDoor_12 : decode cX3_stepDoor 12 = .ok (.iload_n 1, 1) := by decide +kernel
theorem dX3_stepDoor_13 : decode cX3_stepDoor 13 = .ok (.iaload, 1) := by decide +kernel
theorem dX3_stepDoor_14 : decode cX3_stepDoor 14 = .ok (.imul, 1) := by decide +kernel
theorem dX3_stepDoor_15 : decode cX3_stepDoor 15 = .ok (.iadd, 1) := by decide +kernel
theorem dX3_stepDoor_16 : decode cX3_stepDoor 16 = .ok (.istore_n 2, 1) := by decide +kernel
theorem dX3_stepDoor_17 : decode cX3_stepDoor 17 = .ok (.aload_n 0, 1) := by decide +kernel
theorem dX3_stepDoor_18 : decode cX3_stepDoor 18 = .ok (.getfield 38, 3) := by decide +kernel
theorem dX3_stepDoor_21 : decode cX3_stepDoor 21 = .ok (.iload_n 1, 1) := by decide +kernel
theorem dX3_stepDoor_22 : decode cX3_stepDoor 22 = .ok (.iaload, 1) := by decide +kernel
theorem dX3_stepDoor_23 : decode cX3_stepDoor 23 = .ok (.ifCond .le 52, 3) := by decide +kernel
theorem dX3_stepDoor_26 : decode cX3_stepDoor 26 = .ok (.aload_n 0, 1) := by decide +kernel
theorem dX3_stepDoor_27 : decode cX3_stepDoor 27 = .ok (.getfield 32, 3) := by decide +kernel
theorem dX3_stepDoor_30 : decode cX3_stepDoor 30 = .ok (.iload_n 1, 1) := by decide +kernel
theorem dX3_stepDoor_31 : decode cX3_stepDoor 31 = .ok (.iload_n 2, 1) := by decide +kernel
theorem dX3_stepDoor_32 : decode cX3_stepDoor 32 = .ok (.aload_n 0, 1) := by decide +kernel
theorem dX3_stepDoor_33 : decode cX3_stepDoor 33 = .ok (.getfield 44, 3) := by decide +kernel
theorem dX3_stepDoor_36 : decode cX3_stepDoor 36 = .ok (.iload_n 1, 1) := by decide +kernel
theorem dX3_stepDoor_37 : decode cX3_stepDoor 37 = .ok (.iaload, 1) := by decide +kernel
theorem dX3_stepDoor_38 : decode cX3_stepDoor 38 = .ok (.if_icmp .le 12, 3) := by decide +kernel
theorem dX3_stepDoor_41 : decode cX3_stepDoor 41 = .ok (.aload_n 0, 1) := by decide +kernel
theorem dX3_stepDoor_42 : decode cX3_stepDoor 42 = .ok (.getfield 44, 3) := by decide +kernel
theorem dX3_stepDoor_45 : decode cX3_stepDoor 45 = .ok (.iload_n 1, 1) := by decide +kernel
theorem dX3_stepDoor_46 : decode cX3_stepDoor 46 = .ok (.iaload, 1) := by decide +kernel
theorem dX3_stepDoor_47 : decode cX3_stepDoor 47 = .ok (.goto 4, 3) := by decide +kernel
theorem dX3_stepDoor_50 : decode cX3_stepDoor 50 = .ok (.iload_n 2, 1) := by decide +kernel
theorem dX3_stepDoor_51 : decode cX3_stepDoor 51 = .ok (.iastore, 1) := by decide +kernel
theorem dX3_stepDoor_52 : decode cX3_stepDoor 52 = .ok (.aload_n 0, 1) := by decide +kernel
theorem dX3_stepDoor_53 : decode cX3_stepDoor 53 = .ok (.getfield 32, 3) := by decide +kernel
theorem dX3_stepDoor_56 : decode cX3_stepDoor 56 = .ok (.iload_n 1, 1) := by decide +kernel
theorem dX3_stepDoor_57 : decode cX3_stepDoor 57 = .ok (.iaload, 1) := by decide +kernel
theorem dX3_stepDoor_58 : decode cX3_stepDoor 58 = .ok (.aload_n 0, 1) := by decide +kernel
theorem dX3_stepDoor_59 : decode cX3_stepDoor 59 = .ok (.getfield 44, 3) := by decide +kernel
theorem dX3_stepDoor_62 : decode cX3_stepDoor 62 = .ok (.iload_n 1, 1) := by decide +kernel
theorem dX3_stepDoor_63 : decode cX3_stepDoor 63 = .ok (.iaload, 1) := by decide +kernel
theorem dX3_stepDoor_64 : decode cX3_stepDoor 64 = .ok (.if_icmp .ne 10, 3) := by decide +kernel
theorem dX3_stepDoor_67 : decode cX3_stepDoor 67 = .ok (.aload_n 0, 1) := by decide +kernel
theorem dX3_stepDoor_68 : decode cX3_stepDoor 68 = .ok (.iload_n 1, 1) := by decide +kernel
theorem dX3_stepDoor_69 : decode cX3_stepDoor 69 = .ok (.bipush 20, 2) := by decide +kernel
theorem dX3_stepDoor_71 : decode cX3_stepDoor 71 = .ok (.invokevirtual 91, 3) := by decide +kernel
theorem dX3_stepDoor_74 : decode cX3_stepDoor 74 = .ok (.return_, 1) := by decide +kernel
theorem dX3_stepDoor_75 : decode cX3_stepDoor 75 = .ok (.iload_n 2, 1) := by decide +kernel
theorem dX3_stepDoor_76 : decode cX3_stepDoor 76 = .ok (.aload_n 0, 1) := by decide +kernel
theorem dX3_stepDoor_77 : decode cX3_stepDoor 77 = .ok (.getfield 29, 3) := by decide +kernel
theorem dX3_stepDoor_80 : decode cX3_stepDoor 80 = .ok (.iload_n 1, 1) := by decide +kernel
theorem dX3_stepDoor_81 : decode cX3_stepDoor 81 = .ok (.iaload, 1) := by decide +kernel
theorem dX3_stepDoor_82 : decode cX3_stepDoor 82 = .ok (.if_icmp .ge 12, 3) := by decide +kernel
theorem dX3_stepDoor_85 : decode cX3_stepDoor 85 = .ok (.aload_n 0, 1) := by decide +kernel
theorem dX3_stepDoor_86 : decode cX3_stepDoor 86 = .ok (.getfield 29, 3) := by decide +kernel
theorem dX3_stepDoor_89 : decode cX3_stepDoor 89 = .ok (.iload_n 1, 1) := by decide +kernel
theorem dX3_stepDoor_90 : decode cX3_stepDoor 90 = .ok (.iaload, 1) := by decide +kernel
theorem dX3_stepDoor_91 : decode cX3_stepDoor 91 = .ok (.goto 4, 3) := by decide +kernel
theorem dX3_stepDoor_94 : decode cX3_stepDoor 94 = .ok (.iload_n 2, 1) := by decide +kernel
theorem dX3_stepDoor_95 : decode cX3_stepDoor 95 = .ok (.istore_n 2, 1) := by decide +kernel
theorem dX3_stepDoor_96 : decode cX3_stepDoor 96 = .ok (.aload_n 0, 1) := by decide +kernel
theorem dX3_stepDoor_97 : decode cX3_stepDoor 97 = .ok (.getfield 50, 3) := by decide +kernel
theorem dX3_stepDoor_100 : decode cX3_stepDoor 100 = .ok (.iload_n 1, 1) := by decide +kernel
theorem dX3_stepDoor_101 : decode cX3_stepDoor 101 = .ok (.if_icmp .ne 34, 3) := by decide +kernel
theorem dX3_stepDoor_104 : decode cX3_stepDoor 104 = .ok (.iload_n 2, 1) := by decide +kernel
theorem dX3_stepDoor_105 : decode cX3_stepDoor 105 = .ok (.aload_n 0, 1) := by decide +kernel
theorem dX3_stepDoor_106 : decode cX3_stepDoor 106 = .ok (.getfield 29, 3) := by decide +kernel
theorem dX3_stepDoor_109 : decode cX3_stepDoor 109 = .ok (.iload_n 1, 1) := by decide +kernel
theorem dX3_stepDoor_110 : decode cX3_stepDoor 110 = .ok (.iaload, 1) := by decide +kernel
theorem dX3_stepDoor_111 : decode cX3_stepDoor 111 = .ok (.isub, 1) := by decide +kernel
theorem dX3_stepDoor_112 : decode cX3_stepDoor 112 = .ok (.bipush 56, 2) := by decide +kernel
theorem dX3_stepDoor_114 : decode cX3_stepDoor 114 = .ok (.if_icmp .ge 21, 3) := by decide +kernel
theorem dX3_stepDoor_117 : decode cX3_stepDoor 117 = .ok (.aload_n 0, 1) := by decide +kernel
theorem dX3_stepDoor_118 : decode cX3_stepDoor 118 = .ok (.dup, 1) := by decide +kernel
theorem dX3_stepDoor_119 : decode cX3_stepDoor 119 = .ok (.getfield 73, 3) := by decide +kernel
theorem dX3_stepDoor_122 : decode cX3_stepDoor 122 = .ok (.iconst 1, 1) := by decide +kernel
theorem dX3_stepDoor_123 : decode cX3_stepDoor 123 = .ok (.iadd, 1) := by decide +kernel
theorem dX3_stepDoor_124 : decode cX3_stepDoor 124 = .ok (.putfield 73, 3) := by decide +kernel
theorem dX3_stepDoor_127 : decode cX3_stepDoor 127 = .ok (.aload_n 0, 1) := by decide +kernel
theorem dX3_stepDoor_128 : decode cX3_stepDoor 128 = .ok (.getfield 38, 3) := by decide +kernel
theorem dX3_stepDoor_131 : decode cX3_stepDoor 131 = .ok (.iload_n 1, 1) := by decide +kernel
theorem dX3_stepDoor_132 : decode cX3_stepDoor 132 = .ok (.iconst 1, 1) := by decide +kernel
theorem dX3_stepDoor_133 : decode cX3_stepDoor 133 = .ok (.iastore, 1) := by decide +kernel
theorem dX3_stepDoor_134 : decode cX3_stepDoor 134 = .ok (.return_, 1) := by decide +kernel
theorem dX3_stepDoor_135 : decode cX3_stepDoor 135 = .ok (.aload_n 0, 1) := by decide +kernel
theorem dX3_stepDoor_136 : decode cX3_stepDoor 136 = .ok (.getfield 32, 3) := by decide +kernel
theorem dX3_stepDoor_139 : decode cX3_stepDoor 139 = .ok (.iload_n 1, 1) := by decide +kernel
theorem dX3_stepDoor_140 : decode cX3_stepDoor 140 = .ok (.iload_n 2, 1) := by decide +kernel
theorem dX3_stepDoor_141 : decode cX3_stepDoor 141 = .ok (.iastore, 1) := by decide +kernel
theorem dX3_stepDoor_142 : decode cX3_stepDoor 142 = .ok (.iload_n 2, 1) := by decide +kernel
theorem dX3_stepDoor_143 : decode cX3_stepDoor 143 = .ok (.aload_n 0, 1) := by decide +kernel
theorem dX3_stepDoor_144 : decode cX3_stepDoor 144 = .ok (.getfield 29, 3) := by decide +kernel
theorem dX3_stepDoor_147 : decode cX3_stepDoor 147 = .ok (.iload_n 1, 1) := by decide +kernel
theorem dX3_stepDoor_148 : decode cX3_stepDoor 148 = .ok (.iaload, 1) := by decide +kernel
theorem dX3_stepDoor_149 : decode cX3_stepDoor 149 = .ok (.if_icmp .ne 8, 3) := by decide +kernel
theorem dX3_stepDoor_152 : decode cX3_stepDoor 152 = .ok (.aload_n 0, 1) := by decide +kernel
theorem dX3_stepDoor_153 : decode cX3_stepDoor 153 = .ok (.iload_n 1, 1) := by decide +kernel
theorem dX3_stepDoor_154 : decode cX3_stepDoor 154 = .ok (.invokevirtual 95, 3) := by decide +kernel
theorem dX3_stepDoor_157 : decode cX3_stepDoor 157 = .ok (.return_, 1) := by decide +kernel
theorem dX3_rise_0 : decode cX3_rise 0 = .ok (.aload_n 0, 1) := by decide +kernel
theorem dX3_rise_1 : decode cX3_rise 1 = .ok (.getfield 29, 3) := by decide +kernel
theorem dX3_rise_4 : decode cX3_rise 4 = .ok (.iload_n 1, 1) := by decide +kernel
theorem dX3_rise_5 : decode cX3_rise 5 = .ok (.iaload, 1) := by decide +kernel
theorem dX3_rise_6 : decode cX3_rise 6 = .ok (.iload_n 2, 1) := by decide +kernel
theorem dX3_rise_7 : decode cX3_rise 7 = .ok (.iadd, 1) := by decide +kernel
theorem dX3_rise_8 : decode cX3_rise 8 = .ok (.iload_n 3, 1) := by decide +kernel
theorem dX3_rise_9 : decode cX3_rise 9 = .ok (.if_icmp .le 7, 3) := by decide +kernel
theorem dX3_rise_12 : decode cX3_rise 12 = .ok (.iload_n 3, 1) := by decide +kernel
theorem dX3_rise_13 : decode cX3_rise 13 = .ok (.goto 11, 3) := by decide +kernel
theorem dX3_rise_16 : decode cX3_rise 16 = .ok (.aload_n 0, 1) := by decide +kernel
theorem dX3_rise_17 : decode cX3_rise 17 = .ok (.getfield 29, 3) := by decide +kernel
theorem dX3_rise_20 : decode cX3_rise 20 = .ok (.iload_n 1, 1) := by decide +kernel
theorem dX3_rise_21 : decode cX3_rise 21 = .ok (.iaload, 1) := by decide +kernel
theorem dX3_rise_22 : decode cX3_rise 22 = .ok (.iload_n 2, 1) := by decide +kernel
theorem dX3_rise_23 : decode cX3_rise 23 = .ok (.iadd, 1) := by decide +kernel
theorem dX3_rise_24 : decode cX3_rise 24 = .ok (.istore 4, 2) := by decide +kernel
theorem dX3_rise_26 : decode cX3_rise 26 = .ok (.aload_n 0, 1) := by decide +kernel
theorem dX3_rise_27 : decode cX3_rise 27 = .ok (.getfield 50, 3) := by decide +kernel
theorem dX3_rise_30 : decode cX3_rise 30 = .ok (.iload_n 1, 1) := by decide +kernel
theorem dX3_rise_31 : decode cX3_rise 31 = .ok (.if_icmp .ne 28, 3) := by decide +kernel
theorem dX3_rise_34 : decode cX3_rise 34 = .ok (.aload_n 0, 1) := by decide +kernel
theorem dX3_rise_35 : decode cX3_rise 35 = .ok (.getfield 32, 3) := by decide +kernel
theorem dX3_rise_38 : decode cX3_rise 38 = .ok (.iload_n 1, 1) := by decide +kernel
theorem dX3_rise_39 : decode cX3_rise 39 = .ok (.iaload, 1) := by decide +kernel
theorem dX3_rise_40 : decode cX3_rise 40 = .ok (.iload 4, 2) := by decide +kernel
theorem dX3_rise_42 : decode cX3_rise 42 = .ok (.isub, 1) := by decide +kernel
theorem dX3_rise_43 : decode cX3_rise 43 = .ok (.bipush 56, 2) := by decide +kernel
theorem dX3_rise_45 : decode cX3_rise 45 = .ok (.if_icmp .ge 14, 3) := by decide +kernel
theorem dX3_rise_48 : decode cX3_rise 48 = .ok (.aload_n 0, 1) := by decide +kernel
theorem dX3_rise_49 : decode cX3_rise 49 = .ok (.dup, 1) := by decide +kernel
theorem dX3_rise_50 : decode cX3_rise 50 = .ok (.getfield 73, 3) := by decide +kernel
theorem dX3_rise_53 : decode cX3_rise 53 = .ok (.iconst 1, 1) := by decide +kernel
theorem dX3_rise_54 : decode cX3_rise 54 = .ok (.iadd, 1) := by decide +kernel
theorem dX3_rise_55 : decode cX3_rise 55 = .ok (.putfield 73, 3) := by decide +kernel
theorem dX3_rise_58 : decode cX3_rise 58 = .ok (.return_, 1) := by decide +kernel
theorem dX3_rise_59 : decode cX3_rise 59 = .ok (.aload_n 0, 1) := by decide +kernel
theorem dX3_rise_60 : decode cX3_rise 60 = .ok (.getfield 29, 3) := by decide +kernel
theorem dX3_rise_63 : decode cX3_rise 63 = .ok (.iload_n 1, 1) := by decide +kernel
theorem dX3_rise_64 : decode cX3_rise 64 = .ok (.iload 4, 2) := by decide +kernel
theorem dX3_rise_66 : decode cX3_rise 66 = .ok (.iastore, 1) := by decide +kernel
theorem dX3_rise_67 : decode cX3_rise 67 = .ok (.iload 4, 2) := by decide +kernel
theorem dX3_rise_69 : decode cX3_rise 69 = .ok (.iload_n 3, 1) := by decide +kernel
theorem dX3_rise_70 : decode cX3_rise 70 = .ok (.if_icmp .ne 8, 3) := by decide +kernel
theorem dX3_rise_73 : decode cX3_rise 73 = .ok (.aload_n 0, 1) := by decide +kernel
theorem dX3_rise_74 : decode cX3_rise 74 = .ok (.iload_n 1, 1) := by decide +kernel
theorem dX3_rise_75 : decode cX3_rise 75 = .ok (.invokevirtual 95, 3) := by decide +kernel
theorem dX3_rise_78 : decode cX3_rise 78 = .ok (.return_, 1) := by decide +kernel
theorem dX3_step_0 : decode cX3_step 0 = .ok (.aload_n 0, 1) := by decide +kernel
theorem dX3_step_1 : decode cX3_step 1 = .ok (.getfield 35, 3) := by decide +kernel
theorem dX3_step_4 : decode cX3_step 4 = .ok (.iload_n 1, 1) := by decide +kernel
theorem dX3_step_5 : decode cX3_step 5 = .ok (.iaload, 1) := by decide +kernel
theorem dX3_step_6 : decode cX3_step 6 = .ok (.ifCond .ne 11, 3) := by decide +kernel
theorem dX3_step_9 : decode cX3_step 9 = .ok (.aload_n 0, 1) := by decide +kernel
theorem dX3_step_10 : decode cX3_step 10 = .ok (.iload_n 1, 1) := by decide +kernel
theorem dX3_step_11 : decode cX3_step 11 = .ok (.invokevirtual 99, 3) := by decide +kernel
theorem dX3_step_14 : decode cX3_step 14 = .ok (.goto 114, 3) := by decide +kernel
theorem dX3_step_17 : decode cX3_step 17 = .ok (.aload_n 0, 1) := by decide +kernel
theorem dX3_step_18 : decode cX3_step 18 = .ok (.getfield 35, 3) := by decide +kernel
theorem dX3_step_21 : decode cX3_step 21 = .ok (.iload_n 1, 1) := by decide +kernel
theorem dX3_step_22 : decode cX3_step 22 = .ok (.iaload, 1) := by decide +kernel
theorem dX3_step_23 : decode cX3_step 23 = .ok (.iconst 2, 1) := by decide +kernel
theorem dX3_step_24 : decode cX3_step 24 = .ok (.if_icmp .ne 18, 3) := by decide +kernel
theorem dX3_step_27 : decode cX3_step 27 = .ok (.aload_n 0, 1) := by decide +kernel
theorem dX3_step_28 : decode cX3_step 28 = .ok (.iload_n 1, 1) := by decide +kernel
theorem dX3_step_29 : decode cX3_step 29 = .ok (.iconst 2, 1) := by decide +kernel
theorem dX3_step_30 : decode cX3_step 30 = .ok (.aload_n 0, 1) := by decide +kernel
theorem dX3_step_31 : decode cX3_step 31 = .ok (.getfield 44, 3) := by decide +kernel
theorem dX3_step_34 : decode cX3_step 34 = .ok (.iload_n 1, 1) := by decide +kernel
theorem dX3_step_35 : decode cX3_step 35 = .ok (.iaload, 1) := by decide +kernel
theorem dX3_step_36 : decode cX3_step 36 = .ok (.invokevirtual 102, 3) := by decide +kernel
theorem dX3_step_39 : decode cX3_step 39 = .ok (.goto 89, 3) := by decide +kernel
theorem dX3_step_42 : decode cX3_step 42 = .ok (.aload_n 0, 1) := by decide +kernel
theorem dX3_step_43 : decode cX3_step 43 = .ok (.getfield 38, 3) := by decide +kernel
theorem dX3_step_46 : decode cX3_step 46 = .ok (.iload_n 1, 1) := by decide +kernel
theorem dX3_step_47 : decode cX3_step 47 = .ok (.iaload, 1) := by decide +kernel
theorem dX3_step_48 : decode cX3_step 48 = .ok (.ifCond .le 18, 3) := by decide +kernel
theorem dX3_step_51 : decode cX3_step 51 = .ok (.aload_n 0, 1) := by decide +kernel
theorem dX3_step_52 : decode cX3_step 52 = .ok (.iload_n 1, 1) := by decide +kernel
theorem dX3_step_53 : decode cX3_step 53 = .ok (.iconst 4, 1) := by decide +kernel
theorem dX3_step_54 : decode cX3_step 54 = .ok (.aload_n 0, 1) := by decide +kernel
theorem dX3_step_55 : decode cX3_step 55 = .ok (.getfield 47, 3) := by decide +kernel
theorem dX3_step_58 : decode cX3_step 58 = .ok (.iload_n 1, 1) := by decide +kernel
theorem dX3_step_59 : decode cX3_step 59 = .ok (.iaload, 1) := by decide +kernel
theorem dX3_step_60 : decode cX3_step 60 = .ok (.invokevirtual 102, 3) := by decide +kernel
theorem dX3_step_63 : decode cX3_step 63 = .ok (.goto 65, 3) := by decide +kernel
theorem dX3_step_66 : decode cX3_step 66 = .ok (.aload_n 0, 1) := by decide +kernel
theorem dX3_step_67 : decode cX3_step 67 = .ok (.getfield 29, 3) := by decide +kernel
theorem dX3_step_70 : decode cX3_step 70 = .ok (.iload_n 1, 1) := by decide +kernel
theorem dX3_step_71 : decode cX3_step 71 = .ok (.aload_n 0, 1) := by decide +kernel
theorem dX3_step_72 : decode cX3_step 72 = .ok (.getfield 29, 3) := by decide +kernel
theorem dX3_step_75 : decode cX3_step 75 = .ok (.iload_n 1, 1) := by decide +kernel
theorem dX3_step_76 : decode cX3_step 76 = .ok (.iaload, 1) := by decide +kernel
theorem dX3_step_77 : decode cX3_step 77 = .ok (.iconst 4, 1) := by decide +kernel
theorem dX3_step_78 : decode cX3_step 78 = .ok (.isub, 1) := by decide +kernel
theorem dX3_step_79 : decode cX3_step 79 = .ok (.aload_n 0, 1) := by decide +kernel
theorem dX3_step_80 : decode cX3_step 80 = .ok (.getfield 44, 3) := by decide +kernel
theorem dX3_step_83 : decode cX3_step 83 = .ok (.iload_n 1, 1) := by decide +kernel
theorem dX3_step_84 : decode cX3_step 84 = .ok (.iaload, 1) := by decide +kernel
theorem dX3_step_85 : decode cX3_step 85 = .ok (.if_icmp .ge 12, 3) := by decide +kernel
theorem dX3_step_88 : decode cX3_step 88 = .ok (.aload_n 0, 1) := by decide +kernel
theorem dX3_step_89 : decode cX3_step 89 = .ok (.getfield 44, 3) := by decide +kernel
theorem dX3_step_92 : decode cX3_step 92 = .ok (.iload_n 1, 1) := by decide +kernel
theorem dX3_step_93 : decode cX3_step 93 = .ok (.iaload, 1) := by decide +kernel
theorem dX3_step_94 : decode cX3_step 94 = .ok (.goto 11, 3) := by decide +kernel
theorem dX3_step_97 : decode cX3_step 97 = .ok (.aload_n 0, 1) := by decide +kernel
theorem dX3_step_98 : decode cX3_step 98 = .ok (.getfield 29, 3) := by decide +kernel
theorem dX3_step_101 : decode cX3_step 101 = .ok (.iload_n 1, 1) := by decide +kernel
theorem dX3_step_102 : decode cX3_step 102 = .ok (.iaload, 1) := by decide +kernel
theorem dX3_step_103 : decode cX3_step 103 = .ok (.iconst 4, 1) := by decide +kernel
theorem dX3_step_104 : decode cX3_step 104 = .ok (.isub, 1) := by decide +kernel
theorem dX3_step_105 : decode cX3_step 105 = .ok (.iastore, 1) := by decide +kernel
theorem dX3_step_106 : decode cX3_step 106 = .ok (.aload_n 0, 1) := by decide +kernel
theorem dX3_step_107 : decode cX3_step 107 = .ok (.getfield 29, 3) := by decide +kernel
theorem dX3_step_110 : decode cX3_step 110 = .ok (.iload_n 1, 1) := by decide +kernel
theorem dX3_step_111 : decode cX3_step 111 = .ok (.iaload, 1) := by decide +kernel
theorem dX3_step_112 : decode cX3_step 112 = .ok (.aload_n 0, 1) := by decide +kernel
theorem dX3_step_113 : decode cX3_step 113 = .ok (.getfield 44, 3) := by decide +kernel
theorem dX3_step_116 : decode cX3_step 116 = .ok (.iload_n 1, 1) := by decide +kernel
theorem dX3_step_117 : decode cX3_step 117 = .ok (.iaload, 1) := by decide +kernel
theorem dX3_step_118 : decode cX3_step 118 = .ok (.if_icmp .ne 10, 3) := by decide +kernel
theorem dX3_step_121 : decode cX3_step 121 = .ok (.aload_n 0, 1) := by decide +kernel
theorem dX3_step_122 : decode cX3_step 122 = .ok (.iload_n 1, 1) := by decide +kernel
theorem dX3_step_123 : decode cX3_step 123 = .ok (.bipush 30, 2) := by decide +kernel
theorem dX3_step_125 : decode cX3_step 125 = .ok (.invokevirtual 91, 3) := by decide +kernel
theorem dX3_step_128 : decode cX3_step 128 = .ok (.return_, 1) := by decide +kernel
theorem dX3_ticks_0 : decode cX3_ticks 0 = .ok (.aload_n 0, 1) := by decide +kernel
theorem dX3_ticks_1 : decode cX3_ticks 1 = .ok (.iconst 0, 1) := by decide +kernel
theorem dX3_ticks_2 : decode cX3_ticks 2 = .ok (.putfield 54, 3) := by decide +kernel
theorem dX3_ticks_5 : decode cX3_ticks 5 = .ok (.iload_n 1, 1) := by decide +kernel
theorem dX3_ticks_6 : decode cX3_ticks 6 = .ok (.ifCond .lt 10, 3) := by decide +kernel
theorem dX3_ticks_9 : decode cX3_ticks 9 = .ok (.iload_n 1, 1) := by decide +kernel
theorem dX3_ticks_10 : decode cX3_ticks 10 = .ok (.sipush 1000, 3) := by decide +kernel
theorem dX3_ticks_13 : decode cX3_ticks 13 = .ok (.if_icmp .le 5, 3) := by decide +kernel
theorem dX3_ticks_16 : decode cX3_ticks 16 = .ok (.iconst (-1), 1) := by decide +kernel
theorem dX3_ticks_17 : decode cX3_ticks 17 = .ok (.ireturn, 1) := by decide +kernel
theorem dX3_ticks_18 : decode cX3_ticks 18 = .ok (.iconst 0, 1) := by decide +kernel
theorem dX3_ticks_19 : decode cX3_ticks 19 = .ok (.istore_n 2, 1) := by decide +kernel
theorem dX3_ticks_20 : decode cX3_ticks 20 = .ok (.iload_n 2, 1) := by decide +kernel
theorem dX3_ticks_21 : decode cX3_ticks 21 = .ok (.iload_n 1, 1) := by decide +kernel
theorem dX3_ticks_22 : decode cX3_ticks 22 = .ok (.if_icmp .ge 113, 3) := by decide +kernel
theorem dX3_ticks_25 : decode cX3_ticks 25 = .ok (.aload_n 0, 1) := by decide +kernel
theorem dX3_ticks_26 : decode cX3_ticks 26 = .ok (.dup, 1) := by decide +kernel
theorem dX3_ticks_27 : decode cX3_ticks 27 = .ok (.getfield 70, 3) := by decide +kernel
theorem dX3_ticks_30 : decode cX3_ticks 30 = .ok (.iconst 1, 1) := by decide +kernel
theorem dX3_ticks_31 : decode cX3_ticks 31 = .ok (.iadd, 1) := by decide +kernel
theorem dX3_ticks_32 : decode cX3_ticks 32 = .ok (.putfield 70, 3) := by decide +kernel
theorem dX3_ticks_35 : decode cX3_ticks 35 = .ok (.iconst 0, 1) := by decide +kernel
theorem dX3_ticks_36 : decode cX3_ticks 36 = .ok (.istore_n 3, 1) := by decide +kernel
theorem dX3_ticks_37 : decode cX3_ticks 37 = .ok (.iload_n 3, 1) := by decide +kernel
theorem dX3_ticks_38 : decode cX3_ticks 38 = .ok (.aload_n 0, 1) := by decide +kernel
theorem dX3_ticks_39 : decode cX3_ticks 39 = .ok (.getfield 57, 3) := by decide +kernel
theorem dX3_ticks_42 : decode cX3_ticks 42 = .ok (.if_icmp .ge 87, 3) := by decide +kernel
theorem dX3_ticks_45 : decode cX3_ticks 45 = .ok (.aload_n 0, 1) := by decide +kernel
theorem dX3_ticks_46 : decode cX3_ticks 46 = .ok (.getfield 35, 3) := by decide +kernel
theorem dX3_ticks_49 : decode cX3_ticks 49 = .ok (.iload_n 3, 1) := by decide +kernel
theorem dX3_ticks_50 : decode cX3_ticks 50 = .ok (.iaload, 1) := by decide +kernel
theorem dX3_ticks_51 : decode cX3_ticks 51 = .ok (.ifCond .lt 58, 3) := by decide +kernel
theorem dX3_ticks_54 : decode cX3_ticks 54 = .ok (.aload_n 0, 1) := by decide +kernel
theorem dX3_ticks_55 : decode cX3_ticks 55 = .ok (.getfield 41, 3) := by decide +kernel
theorem dX3_ticks_58 : decode cX3_ticks 58 = .ok (.iload_n 3, 1) := by decide +kernel
theorem dX3_ticks_59 : decode cX3_ticks 59 = .ok (.iaload, 1) := by decide +kernel
theorem dX3_ticks_60 : decode cX3_ticks 60 = .ok (.ifCond .le 49, 3) := by decide +kernel
theorem dX3_ticks_63 : decode cX3_ticks 63 = .ok (.aload_n 0, 1) := by decide +kernel
theorem dX3_ticks_64 : decode cX3_ticks 64 = .ok (.getfield 41, 3) := by decide +kernel
theorem dX3_ticks_67 : decode cX3_ticks 67 = .ok (.iload_n 3, 1) := by decide +kernel
theorem dX3_ticks_68 : decode cX3_ticks 68 = .ok (.dup2, 1) := by decide +kernel
theorem dX3_ticks_69 : decode cX3_ticks 69 = .ok (.iaload, 1) := by decide +kernel
theorem dX3_ticks_70 : decode cX3_ticks 70 = .ok (.iconst 1, 1) := by decide +kernel
theorem dX3_ticks_71 : decode cX3_ticks 71 = .ok (.isub, 1) := by decide +kernel
theorem dX3_ticks_72 : decode cX3_ticks 72 = .ok (.iastore, 1) := by decide +kernel
theorem dX3_ticks_73 : decode cX3_ticks 73 = .ok (.aload_n 0, 1) := by decide +kernel
theorem dX3_ticks_74 : decode cX3_ticks 74 = .ok (.getfield 38, 3) := by decide +kernel
theorem dX3_ticks_77 : decode cX3_ticks 77 = .ok (.iload_n 3, 1) := by decide +kernel
theorem dX3_ticks_78 : decode cX3_ticks 78 = .ok (.aload_n 0, 1) := by decide +kernel
theorem dX3_ticks_79 : decode cX3_ticks 79 = .ok (.getfield 41, 3) := by decide +kernel
theorem dX3_ticks_82 : decode cX3_ticks 82 = .ok (.iload_n 3, 1) := by decide +kernel
theorem dX3_ticks_83 : decode cX3_ticks 83 = .ok (.iaload, 1) := by decide +kernel
theorem dX3_ticks_84 : decode cX3_ticks 84 = .ok (.ifCond .le 7, 3) := by decide +kernel
theorem dX3_ticks_87 : decode cX3_ticks 87 = .ok (.iconst 0, 1) := by decide +kernel
theorem dX3_ticks_88 : decode cX3_ticks 88 = .ok (.goto 17, 3) := by decide +kernel
theorem dX3_ticks_91 : decode cX3_ticks 91 = .ok (.aload_n 0, 1) := by decide +kernel
theorem dX3_ticks_92 : decode cX3_ticks 92 = .ok (.getfield 35, 3) := by decide +kernel
theorem dX3_ticks_95 : decode cX3_ticks 95 = .ok (.iload_n 3, 1) := by decide +kernel
theorem dX3_ticks_96 : decode cX3_ticks 96 = .ok (.iaload, 1) := by decide +kernel
theorem dX3_ticks_97 : decode cX3_ticks 97 = .ok (.ifCond .ne 7, 3) := by decide +kernel
theorem dX3_ticks_100 : decode cX3_ticks 100 = .ok (.iconst (-1), 1) := by decide +kernel
theorem dX3_ticks_101 : decode cX3_ticks 101 = .ok (.goto 4, 3) := by decide +kernel
theorem dX3_ticks_104 : decode cX3_ticks 104 = .ok (.iconst 1, 1) := by decide +kernel
theorem dX3_ticks_105 : decode cX3_ticks 105 = .ok (.iastore, 1) := by decide +kernel
theorem dX3_ticks_106 : decode cX3_ticks 106 = .ok (.goto 17, 3) := by decide +kernel
theorem dX3_ticks_109 : decode cX3_ticks 109 = .ok (.aload_n 0, 1) := by decide +kernel
theorem dX3_ticks_110 : decode cX3_ticks 110 = .ok (.getfield 35, 3) := by decide +kernel
theorem dX3_ticks_113 : decode cX3_ticks 113 = .ok (.iload_n 3, 1) := by decide +kernel
theorem dX3_ticks_114 : decode cX3_ticks 114 = .ok (.iaload, 1) := by decide +kernel
theorem dX3_ticks_115 : decode cX3_ticks 115 = .ok (.ifCond .lt 8, 3) := by decide +kernel
theorem dX3_ticks_118 : decode cX3_ticks 118 = .ok (.aload_n 0, 1) := by decide +kernel
theorem dX3_ticks_119 : decode cX3_ticks 119 = .ok (.iload_n 3, 1) := by decide +kernel
theorem dX3_ticks_120 : decode cX3_ticks 120 = .ok (.invokevirtual 106, 3) := by decide +kernel
theorem dX3_ticks_123 : decode cX3_ticks 123 = .ok (.iinc 3 1, 3) := by decide +kernel
theorem dX3_ticks_126 : decode cX3_ticks 126 = .ok (.goto (-89), 3) := by decide +kernel
theorem dX3_ticks_129 : decode cX3_ticks 129 = .ok (.iinc 2 1, 3) := by decide +kernel
theorem dX3_ticks_132 : decode cX3_ticks 132 = .ok (.goto (-112), 3) := by decide +kernel
theorem dX3_ticks_135 : decode cX3_ticks 135 = .ok (.aload_n 0, 1) := by decide +kernel
theorem dX3_ticks_136 : decode cX3_ticks 136 = .ok (.getfield 70, 3) := by decide +kernel
theorem dX3_ticks_139 : decode cX3_ticks 139 = .ok (.ireturn, 1) := by decide +kernel
theorem dX3_many_0 : decode cX3_many 0 = .ok (.iconst 0, 1) := by decide +kernel
theorem dX3_many_1 : decode cX3_many 1 = .ok (.istore_n 1, 1) := by decide +kernel
theorem dX3_many_2 : decode cX3_many 2 = .ok (.iconst 0, 1) := by decide +kernel
theorem dX3_many_3 : decode cX3_many 3 = .ok (.istore_n 2, 1) := by decide +kernel
theorem dX3_many_4 : decode cX3_many 4 = .ok (.iload_n 2, 1) := by decide +kernel
theorem dX3_many_5 : decode cX3_many 5 = .ok (.aload_n 0, 1) := by decide +kernel
theorem dX3_many_6 : decode cX3_many 6 = .ok (.getfield 57, 3) := by decide +kernel
theorem dX3_many_9 : decode cX3_many 9 = .ok (.if_icmp .ge 26, 3) := by decide +kernel
theorem dX3_many_12 : decode cX3_many 12 = .ok (.iload_n 1, 1) := by decide +kernel
theorem dX3_many_13 : decode cX3_many 13 = .ok (.aload_n 0, 1) := by decide +kernel
theorem dX3_many_14 : decode cX3_many 14 = .ok (.getfield 35, 3) := by decide +kernel
theorem dX3_many_17 : decode cX3_many 17 = .ok (.iload_n 2, 1) := by decide +kernel
theorem dX3_many_18 : decode cX3_many 18 = .ok (.iaload, 1) := by decide +kernel
theorem dX3_many_19 : decode cX3_many 19 = .ok (.ifCond .lt 7, 3) := by decide +kernel
theorem dX3_many_22 : decode cX3_many 22 = .ok (.iconst 1, 1) := by decide +kernel
theorem dX3_many_23 : decode cX3_many 23 = .ok (.goto 4, 3) := by decide +kernel
theorem dX3_many_26 : decode cX3_many 26 = .ok (.iconst 0, 1) := by decide +kernel
theorem dX3_many_27 : decode cX3_many 27 = .ok (.iadd, 1) := by decide +kernel
theorem dX3_many_28 : decode cX3_many 28 = .ok (.istore_n 1, 1) := by decide +kernel
theorem dX3_many_29 : decode cX3_many 29 = .ok (.iinc 2 1, 3) := by decide +kernel
theorem dX3_many_32 : decode cX3_many 32 = .ok (.goto (-28), 3) := by decide +kernel
theorem dX3_many_35 : decode cX3_many 35 = .ok (.iload_n 1, 1) := by decide +kernel
theorem dX3_many_36 : decode cX3_many 36 = .ok (.ireturn, 1) := by decide +kernel
theorem dX3_lightOf_0 : decode cX3_lightOf 0 = .ok (.aload_n 0, 1) := by decide +kernel
theorem dX3_lightOf_1 : decode cX3_lightOf 1 = .ok (.getfield 16, 3) := by decide +kernel
theorem dX3_lightOf_4 : decode cX3_lightOf 4 = .ok (.iload_n 1, 1) := by decide +kernel
theorem dX3_lightOf_5 : decode cX3_lightOf 5 = .ok (.iaload, 1) := by decide +kernel
theorem dX3_lightOf_6 : decode cX3_lightOf 6 = .ok (.istore_n 2, 1) := by decide +kernel
theorem dX3_lightOf_7 : decode cX3_lightOf 7 = .ok (.iload_n 2, 1) := by decide +kernel
theorem dX3_lightOf_8 : decode cX3_lightOf 8 = .ok (.aload_n 0, 1) := by decide +kernel
theorem dX3_lightOf_9 : decode cX3_lightOf 9 = .ok (.invokevirtual 109, 3) := by decide +kernel
theorem dX3_lightOf_12 : decode cX3_lightOf 12 = .ok (.isub, 1) := by decide +kernel
theorem dX3_lightOf_13 : decode cX3_lightOf 13 = .ok (.istore_n 3, 1) := by decide +kernel
theorem dX3_lightOf_14 : decode cX3_lightOf 14 = .ok (.aload_n 0, 1) := by decide +kernel
theorem dX3_lightOf_15 : decode cX3_lightOf 15 = .ok (.getfield 19, 3) := by decide +kernel
theorem dX3_lightOf_18 : decode cX3_lightOf 18 = .ok (.iload_n 1, 1) := by decide +kernel
theorem dX3_lightOf_19 : decode cX3_lightOf 19 = .ok (.iaload, 1) := by decide +kernel
theorem dX3_lightOf_20 : decode cX3_lightOf 20 = .ok (.tableswitch 75 1 3 #[28, 47, 65], 28) := by decide +kernel
theorem dX3_lightOf_48 : decode cX3_lightOf 48 = .ok (.aload_n 0, 1) := by decide +kernel
theorem dX3_lightOf_49 : decode cX3_lightOf 49 = .ok (.getfield 70, 3) := by decide +kernel
theorem dX3_lightOf_52 : decode cX3_lightOf 52 = .ok (.bipush 16, 2) := by decide +kernel
theorem dX3_lightOf_54 : decode cX3_lightOf 54 = .ok (.irem, 1) := by decide +kernel
theorem dX3_lightOf_55 : decode cX3_lightOf 55 = .ok (.iconst 4, 1) := by decide +kernel
theorem dX3_lightOf_56 : decode cX3_lightOf 56 = .ok (.if_icmp .ge 7, 3) := by decide +kernel
theorem dX3_lightOf_59 : decode cX3_lightOf 59 = .ok (.iload_n 2, 1) := by decide +kernel
theorem dX3_lightOf_60 : decode cX3_lightOf 60 = .ok (.goto 6, 3) := by decide +kernel
theorem dX3_lightOf_63 : decode cX3_lightOf 63 = .ok (.iload_n 2, 1) := by decide +kernel
theorem dX3_lightOf_64 : decode cX3_lightOf 64 = .ok (.iconst 2, 1) := by decide +kernel
theorem dX3_lightOf_65 : decode cX3_lightOf 65 = .ok (.idiv, 1) := by decide +kernel
theorem dX3_lightOf_66 : decode cX3_lightOf 66 = .ok (.ireturn, 1) := by decide +kernel
theorem dX3_lightOf_67 : decode cX3_lightOf 67 = .ok (.aload_n 0, 1) := by decide +kernel
theorem dX3_lightOf_68 : decode cX3_lightOf 68 = .ok (.getfield 70, 3) := by decide +kernel
theorem dX3_lightOf_71 : decode cX3_lightOf 71 = .ok (.bipush 32, 2) := by decide +kernel
theorem dX3_lightOf_73 : decode cX3_lightOf 73 = .ok (.idiv, 1) := by decide +kernel
theorem dX3_lightOf_74 : decode cX3_lightOf 74 = .ok (.iconst 2, 1) := by decide +kernel
theorem dX3_lightOf_75 : decode cX3_lightOf 75 = .ok (.irem, 1) := by decide +kernel
theorem dX3_lightOf_76 : decode cX3_lightOf 76 = .ok (.ifCond .ne 7, 3) := by decide +kernel
theorem dX3_lightOf_79 : decode cX3_lightOf 79 = .ok (.iload_n 2, 1) := by decide +kernel
theorem dX3_lightOf_80 : decode cX3_lightOf 80 = .ok (.goto 4, 3) := by decide +kernel
theorem dX3_lightOf_83 : decode cX3_lightOf 83 = .ok (.iconst 0, 1) := by decide +kernel
theorem dX3_lightOf_84 : decode cX3_lightOf 84 = .ok (.ireturn, 1) := by decide +kernel
theorem dX3_lightOf_85 : decode cX3_lightOf 85 = .ok (.iload_n 3, 1) := by decide +kernel
theorem dX3_lightOf_86 : decode cX3_lightOf 86 = .ok (.ifCond .ge 7, 3) := by decide +kernel
theorem dX3_lightOf_89 : decode cX3_lightOf 89 = .ok (.iconst 0, 1) := by decide +kernel
theorem dX3_lightOf_90 : decode cX3_lightOf 90 = .ok (.goto 4, 3) := by decide +kernel
theorem dX3_lightOf_93 : decode cX3_lightOf 93 = .ok (.iload_n 3, 1) := by decide +kernel
theorem dX3_lightOf_94 : decode cX3_lightOf 94 = .ok (.ireturn, 1) := by decide +kernel
theorem dX3_lightOf_95 : decode cX3_lightOf 95 = .ok (.iload_n 2, 1) := by decide +kernel
theorem dX3_lightOf_96 : decode cX3_lightOf 96 = .ok (.ireturn, 1) := by decide +kernel
theorem dX3_of_0 : decode cX3_of 0 = .ok (.aload_n 0, 1) := by decide +kernel
theorem dX3_of_1 : decode cX3_of 1 = .ok (.iconst 0, 1) := by decide +kernel
theorem dX3_of_2 : decode cX3_of 2 = .ok (.putfield 54, 3) := by decide +kernel
theorem dX3_of_5 : decode cX3_of 5 = .ok (.aload_n 0, 1) := by decide +kernel
theorem dX3_of_6 : decode cX3_of 6 = .ok (.iload_n 1, 1) := by decide +kernel
theorem dX3_of_7 : decode cX3_of 7 = .ok (.invokevirtual 63, 3) := by decide +kernel
theorem dX3_of_10 : decode cX3_of 10 = .ok (.ifCond .ne 6, 3) := by decide +kernel
theorem dX3_of_13 : decode cX3_of 13 = .ok (.ldc 76, 2) := by decide +kernel
theorem dX3_of_15 : decode cX3_of 15 = .ok (.ireturn, 1) := by decide +kernel
theorem dX3_of_16 : decode cX3_of 16 = .ok (.iload_n 2, 1) := by decide +kernel
theorem dX3_of_17 : decode cX3_of 17 = .ok (.tableswitch 121 0 9 #[55, 62, 69, 75, 82, 89, 96, 102, 108, 114], 55) := by decide +kernel
theorem dX3_of_72 : decode cX3_of 72 = .ok (.aload_n 0, 1) := by decide +kernel
theorem dX3_of_73 : decode cX3_of 73 = .ok (.getfield 29, 3) := by decide +kernel
theorem dX3_of_76 : decode cX3_of 76 = .ok (.iload_n 1, 1) := by decide +kernel
theorem dX3_of_77 : decode cX3_of 77 = .ok (.iaload, 1) := by decide +kernel
theorem dX3_of_78 : decode cX3_of 78 = .ok (.ireturn, 1) := by decide +kernel
theorem dX3_of_79 : decode cX3_of 79 = .ok (.aload_n 0, 1) := by decide +kernel
theorem dX3_of_80 : decode cX3_of 80 = .ok (.getfield 32, 3) := by decide +kernel
theorem dX3_of_83 : decode cX3_of 83 = .ok (.iload_n 1, 1) := by decide +kernel
theorem dX3_of_84 : decode cX3_of 84 = .ok (.iaload, 1) := by decide +kernel
theorem dX3_of_85 : decode cX3_of 85 = .ok (.ireturn, 1) := by decide +kernel
theorem dX3_of_86 : decode cX3_of 86 = .ok (.aload_n 0, 1) := by decide +kernel
theorem dX3_of_87 : decode cX3_of 87 = .ok (.iload_n 1, 1) := by decide +kernel
theorem dX3_of_88 : decode cX3_of 88 = .ok (.invokevirtual 113, 3) := by decide +kernel
theorem dX3_of_91 : decode cX3_of 91 = .ok (.ireturn, 1) := by decide +kernel
theorem dX3_of_92 : decode cX3_of 92 = .ok (.aload_n 0, 1) := by decide +kernel
theorem dX3_of_93 : decode cX3_of 93 = .ok (.getfield 35, 3) := by decide +kernel
theorem dX3_of_96 : decode cX3_of 96 = .ok (.iload_n 1, 1) := by decide +kernel
theorem dX3_of_97 : decode cX3_of 97 = .ok (.iaload, 1) := by decide +kernel
theorem dX3_of_98 : decode cX3_of 98 = .ok (.ireturn, 1) := by decide +kernel
theorem dX3_of_99 : decode cX3_of 99 = .ok (.aload_n 0, 1) := by decide +kernel
theorem dX3_of_100 : decode cX3_of 100 = .ok (.getfield 38, 3) := by decide +kernel
theorem dX3_of_103 : decode cX3_of 103 = .ok (.iload_n 1, 1) := by decide +kernel
theorem dX3_of_104 : decode cX3_of 104 = .ok (.iaload, 1) := by decide +kernel
theorem dX3_of_105 : decode cX3_of 105 = .ok (.ireturn, 1) := by decide +kernel
theorem dX3_of_106 : decode cX3_of 106 = .ok (.aload_n 0, 1) := by decide +kernel
theorem dX3_of_107 : decode cX3_of 107 = .ok (.getfield 41, 3) := by decide +kernel
theorem dX3_of_110 : decode cX3_of 110 = .ok (.iload_n 1, 1) := by decide +kernel
theorem dX3_of_111 : decode cX3_of 111 = .ok (.iaload, 1) := by decide +kernel
theorem dX3_of_112 : decode cX3_of 112 = .ok (.ireturn, 1) := by decide +kernel
theorem dX3_of_113 : decode cX3_of 113 = .ok (.aload_n 0, 1) := by decide +kernel
theorem dX3_of_114 : decode cX3_of 114 = .ok (.iload_n 1, 1) := by decide +kernel
theorem dX3_of_115 : decode cX3_of 115 = .ok (.invokevirtual 84, 3) := by decide +kernel
theorem dX3_of_118 : decode cX3_of 118 = .ok (.ireturn, 1) := by decide +kernel
theorem dX3_of_119 : decode cX3_of 119 = .ok (.aload_n 0, 1) := by decide +kernel
theorem dX3_of_120 : decode cX3_of 120 = .ok (.iload_n 1, 1) := by decide +kernel
theorem dX3_of_121 : decode cX3_of 121 = .ok (.invokevirtual 81, 3) := by decide +kernel
theorem dX3_of_124 : decode cX3_of 124 = .ok (.ireturn, 1) := by decide +kernel
theorem dX3_of_125 : decode cX3_of 125 = .ok (.aload_n 0, 1) := by decide +kernel
theorem dX3_of_126 : decode cX3_of 126 = .ok (.iload_n 1, 1) := by decide +kernel
theorem dX3_of_127 : decode cX3_of 127 = .ok (.invokevirtual 77, 3) := by decide +kernel
theorem dX3_of_130 : decode cX3_of 130 = .ok (.ireturn, 1) := by decide +kernel
theorem dX3_of_131 : decode cX3_of 131 = .ok (.aload_n 0, 1) := by decide +kernel
theorem dX3_of_132 : decode cX3_of 132 = .ok (.getfield 44, 3) := by decide +kernel
theorem dX3_of_135 : decode cX3_of 135 = .ok (.iload_n 1, 1) := by decide +kernel
theorem dX3_of_136 : decode cX3_of 136 = .ok (.iaload, 1) := by decide +kernel
theorem dX3_of_137 : decode cX3_of 137 = .ok (.ireturn, 1) := by decide +kernel
theorem dX3_of_138 : decode cX3_of 138 = .ok (.ldc 76, 2) := by decide +kernel
theorem dX3_of_140 : decode cX3_of 140 = .ok (.ireturn, 1) := by decide +kernel
theorem dX3_are_0 : decode cX3_are 0 = .ok (.aload_n 0, 1) := by decide +kernel
theorem dX3_are_1 : decode cX3_are 1 = .ok (.iconst 0, 1) := by decide +kernel
theorem dX3_are_2 : decode cX3_are 2 = .ok (.putfield 54, 3) := by decide +kernel
theorem dX3_are_5 : decode cX3_are 5 = .ok (.aload_n 0, 1) := by decide +kernel
theorem dX3_are_6 : decode cX3_are 6 = .ok (.iload_n 1, 1) := by decide +kernel
theorem dX3_are_7 : decode cX3_are 7 = .ok (.invokevirtual 63, 3) := by decide +kernel
theorem dX3_are_10 : decode cX3_are 10 = .ok (.ifCond .eq 49, 3) := by decide +kernel
theorem dX3_are_13 : decode cX3_are 13 = .ok (.aload_n 0, 1) := by decide +kernel
theorem dX3_are_14 : decode cX3_are 14 = .ok (.iload_n 2, 1) := by decide +kernel
theorem dX3_are_15 : decode cX3_are 15 = .ok (.invokevirtual 63, 3) := by decide +kernel
theorem dX3_are_18 : decode cX3_are 18 = .ok (.ifCond .eq 41, 3) := by decide +kernel
theorem dX3_are_21 : decode cX3_are 21 = .ok (.aload_n 0, 1) := by decide +kernel
theorem dX3_are_22 : decode cX3_are 22 = .ok (.getfield 25, 3) := by decide +kernel
theorem dX3_are_25 : decode cX3_are 25 = .ok (.aload_n 0, 1) := by decide +kernel
theorem dX3_are_26 : decode cX3_are 26 = .ok (.iload_n 1, 1) := by decide +kernel
theorem dX3_are_27 : decode cX3_are 27 = .ok (.invokevirtual 63, 3) := by decide +kernel
theorem dX3_are_30 : decode cX3_are 30 = .ok (.ifCond .eq 20, 3) := by decide +kernel
theorem dX3_are_33 : decode cX3_are 33 = .ok (.aload_n 0, 1) := by decide +kernel
theorem dX3_are_34 : decode cX3_are 34 = .ok (.iload_n 2, 1) := by decide +kernel
theorem dX3_are_35 : decode cX3_are 35 = .ok (.invokevirtual 63, 3) := by decide +kernel
theorem dX3_are_38 : decode cX3_are 38 = .ok (.ifCond .eq 12, 3) := by decide +kernel
theorem dX3_are_41 : decode cX3_are 41 = .ok (.bipush 32, 2) := by decide +kernel
theorem dX3_are_43 : decode cX3_are 43 = .ok (.iload_n 1, 1) := by decide +kernel
theorem dX3_are_44 : decode cX3_are 44 = .ok (.imul, 1) := by decide +kernel
theorem dX3_are_45 : decode cX3_are 45 = .ok (.iload_n 2, 1) := by decide +kernel
theorem dX3_are_46 : decode cX3_are 46 = .ok (.iadd, 1) := by decide +kernel
theorem dX3_are_47 : decode cX3_are 47 = .ok (.goto 4, 3) := by decide +kernel
theorem dX3_are_50 : decode cX3_are 50 = .ok (.iconst 0, 1) := by decide +kernel
theorem dX3_are_51 : decode cX3_are 51 = .ok (.baload, 1) := by decide +kernel
theorem dX3_are_52 : decode cX3_are 52 = .ok (.ifCond .eq 7, 3) := by decide +kernel
theorem dX3_are_55 : decode cX3_are 55 = .ok (.iconst 1, 1) := by decide +kernel
theorem dX3_are_56 : decode cX3_are 56 = .ok (.goto 4, 3) := by decide +kernel
theorem dX3_are_59 : decode cX3_are 59 = .ok (.iconst 0, 1) := by decide +kernel
theorem dX3_are_60 : decode cX3_are 60 = .ok (.ireturn, 1) := by decide +kernel
theorem dX3_open_0 : decode cX3_open 0 = .ok (.aload_n 0, 1) := by decide +kernel
theorem dX3_open_1 : decode cX3_open 1 = .ok (.iload_n 1, 1) := by decide +kernel
theorem dX3_open_2 : decode cX3_open 2 = .ok (.iload_n 2, 1) := by decide +kernel
theorem dX3_open_3 : decode cX3_open 3 = .ok (.invokevirtual 116, 3) := by decide +kernel
theorem dX3_open_6 : decode cX3_open 6 = .ok (.ifCond .ne 5, 3) := by decide +kernel
theorem dX3_open_9 : decode cX3_open 9 = .ok (.iconst 0, 1) := by decide +kernel
theorem dX3_open_10 : decode cX3_open 10 = .ok (.ireturn, 1) := by decide +kernel
theorem dX3_open_11 : decode cX3_open 11 = .ok (.aload_n 0, 1) := by decide +kernel
theorem dX3_open_12 : decode cX3_open 12 = .ok (.getfield 32, 3) := by decide +kernel
theorem dX3_open_15 : decode cX3_open 15 = .ok (.iload_n 1, 1) := by decide +kernel
theorem dX3_open_16 : decode cX3_open 16 = .ok (.iaload, 1) := by decide +kernel
theorem dX3_open_17 : decode cX3_open 17 = .ok (.aload_n 0, 1) := by decide +kernel
theorem dX3_open_18 : decode cX3_open 18 = .ok (.getfield 32, 3) := by decide +kernel
theorem dX3_open_21 : decode cX3_open 21 = .ok (.iload_n 2, 1) := by decide +kernel
theorem dX3_open_22 : decode cX3_open 22 = .ok (.iaload, 1) := by decide +kernel
theorem dX3_open_23 : decode cX3_open 23 = .ok (.if_icmp .ge 12, 3) := by decide +kernel
theorem dX3_open_26 : decode cX3_open 26 = .ok (.aload_n 0, 1) := by decide +kernel
theorem dX3_open_27 : decode cX3_open 27 = .ok (.getfield 32, 3) := by decide +kernel
theorem dX3_open_30 : decode cX3_open 30 = .ok (.iload_n 1, 1) := by decide +kernel
theorem dX3_open_31 : decode cX3_open 31 = .ok (.iaload, 1) := by decide +kernel
theorem dX3_open_32 : decode cX3_open 32 = .ok (.goto 9, 3) := by decide +kernel
theorem dX3_open_35 : decode cX3_open 35 = .ok (.aload_n 0, 1) := by decide +kernel
theorem dX3_open_36 : decode cX3_open 36 = .ok (.getfield 32, 3) := by decide +kernel
theorem dX3_open_39 : decode cX3_open 39 = .ok (.iload_n 2, 1) := by decide +kernel
theorem dX3_open_40 : decode cX3_open 40 = .ok (.iaload, 1) := by decide +kernel
theorem dX3_open_41 : decode cX3_open 41 = .ok (.istore_n 3, 1) := by decide +kernel
theorem dX3_open_42 : decode cX3_open 42 = .ok (.aload_n 0, 1) := by decide +kernel
theorem dX3_open_43 : decode cX3_open 43 = .ok (.getfield 29, 3) := by decide +kernel
theorem dX3_open_46 : decode cX3_open 46 = .ok (.iload_n 1, 1) := by decide +kernel
theorem dX3_open_47 : decode cX3_open 47 = .ok (.iaload, 1) := by decide +kernel
theorem dX3_open_48 : decode cX3_open 48 = .ok (.aload_n 0, 1) := by decide +kernel
theorem dX3_open_49 : decode cX3_open 49 = .ok (.getfield 29, 3) := by decide +kernel
theorem dX3_open_52 : decode cX3_open 52 = .ok (.iload_n 2, 1) := by decide +kernel
theorem dX3_open_53 : decode cX3_open 53 = .ok (.iaload, 1) := by decide +kernel
theorem dX3_open_54 : decode cX3_open 54 = .ok (.if_icmp .le 12, 3) := by decide +kernel
theorem dX3_open_57 : decode cX3_open 57 = .ok (.aload_n 0, 1) := by decide +kernel
theorem dX3_open_58 : decode cX3_open 58 = .ok (.getfield 29, 3) := by decide +kernel
theorem dX3_open_61 : decode cX3_open 61 = .ok (.iload_n 1, 1) := by decide +kernel
theorem dX3_open_62 : decode cX3_open 62 = .ok (.iaload, 1) := by decide +kernel
theorem dX3_open_63 : decode cX3_open 63 = .ok (.goto 9, 3) := by decide +kernel
theorem dX3_open_66 : decode cX3_open 66 = .ok (.aload_n 0, 1) := by decide +kernel
theorem dX3_open_67 : decode cX3_open 67 = .ok (.getfield 29, 3) := by decide +kernel
theorem dX3_open_70 : decode cX3_open 70 = .ok (.iload_n 2, 1) := by decide +kernel
theorem dX3_open_71 : decode cX3_open 71 = .ok (.iaload, 1) := by decide +kernel
theorem dX3_open_72 : decode cX3_open 72 = .ok (.istore 4, 2) := by decide +kernel
theorem dX3_open_74 : decode cX3_open 74 = .ok (.aload_n 0, 1) := by decide +kernel
theorem dX3_open_75 : decode cX3_open 75 = .ok (.getfield 29, 3) := by decide +kernel
theorem dX3_open_78 : decode cX3_open 78 = .ok (.iload_n 2, 1) := by decide +kernel
theorem dX3_open_79 : decode cX3_open 79 = .ok (.iaload, 1) := by decide +kernel
theorem dX3_open_80 : decode cX3_open 80 = .ok (.aload_n 0, 1) := by decide +kernel
theorem dX3_open_81 : decode cX3_open 81 = .ok (.getfield 29, 3) := by decide +kernel
theorem dX3_open_84 : decode cX3_open 84 = .ok (.iload_n 1, 1) := by decide +kernel
theorem dX3_open_85 : decode cX3_open 85 = .ok (.iaload, 1) := by decide +kernel
theorem dX3_open_86 : decode cX3_open 86 = .ok (.isub, 1) := by decide +kernel
theorem dX3_open_87 : decode cX3_open 87 = .ok (.bipush 24, 2) := by decide +kernel
theorem dX3_open_89 : decode cX3_open 89 = .ok (.if_icmp .gt 16, 3) := by decide +kernel
theorem dX3_open_92 : decode cX3_open 92 = .ok (.iload_n 3, 1) := by decide +kernel
theorem dX3_open_93 : decode cX3_open 93 = .ok (.iload 4, 2) := by decide +kernel
theorem dX3_open_95 : decode cX3_open 95 = .ok (.isub, 1) := by decide +kernel
theorem dX3_open_96 : decode cX3_open 96 = .ok (.bipush 56, 2) := by decide +kernel
theorem dX3_open_98 : decode cX3_open 98 = .ok (.if_icmp .lt 7, 3) := by decide +kernel
theorem dX3_open_101 : decode cX3_open 101 = .ok (.iconst 1, 1) := by decide +kernel
theorem dX3_open_102 : decode cX3_open 102 = .ok (.goto 4, 3) := by decide +kernel
theorem dX3_open_105 : decode cX3_open 105 = .ok (.iconst 0, 1) := by decide +kernel
theorem dX3_open_106 : decode cX3_open 106 = .ok (.ireturn, 1) := by decide +kernel
theorem dX3_look_0 : decode cX3_look 0 = .ok (.aload_n 0, 1) := by decide +kernel
theorem dX3_look_1 : decode cX3_look 1 = .ok (.iconst 0, 1) := by decide +kernel
theorem dX3_look_2 : decode cX3_look 2 = .ok (.putfield 54, 3) := by decide +kernel
theorem dX3_look_5 : decode cX3_look 5 = .ok (.iload_n 1, 1) := by decide +kernel
theorem dX3_look_6 : decode cX3_look 6 = .ok (.tableswitch 68 0 5 #[38, 43, 48, 53, 58, 63], 38) := by decide +kernel
theorem dX3_look_44 : decode cX3_look 44 = .ok (.aload_n 0, 1) := by decide +kernel
theorem dX3_look_45 : decode cX3_look 45 = .ok (.getfield 57, 3) := by decide +kernel
theorem dX3_look_48 : decode cX3_look 48 = .ok (.ireturn, 1) := by decide +kernel
theorem dX3_look_49 : decode cX3_look 49 = .ok (.aload_n 0, 1) := by decide +kernel
theorem dX3_look_50 : decode cX3_look 50 = .ok (.getfield 67, 3) := by decide +kernel
theorem dX3_look_53 : decode cX3_look 53 = .ok (.ireturn, 1) := by decide +kernel
theorem dX3_look_54 : decode cX3_look 54 = .ok (.aload_n 0, 1) := by decide +kernel
theorem dX3_look_55 : decode cX3_look 55 = .ok (.getfield 70, 3) := by decide +kernel
theorem dX3_look_58 : decode cX3_look 58 = .ok (.ireturn, 1) := by decide +kernel
theorem dX3_look_59 : decode cX3_look 59 = .ok (.aload_n 0, 1) := by decide +kernel
theorem dX3_look_60 : decode cX3_look 60 = .ok (.invokevirtual 109, 3) := by decide +kernel
theorem dX3_look_63 : decode cX3_look 63 = .ok (.ireturn, 1) := by decide +kernel
theorem dX3_look_64 : decode cX3_look 64 = .ok (.aload_n 0, 1) := by decide +kernel
theorem dX3_look_65 : decode cX3_look 65 = .ok (.getfield 50, 3) := by decide +kernel
theorem dX3_look_68 : decode cX3_look 68 = .ok (.ireturn, 1) := by decide +kernel
theorem dX3_look_69 : decode cX3_look 69 = .ok (.aload_n 0, 1) := by decide +kernel
theorem dX3_look_70 : decode cX3_look 70 = .ok (.getfield 73, 3) := by decide +kernel
theorem dX3_look_73 : decode cX3_look 73 = .ok (.ireturn, 1) := by decide +kernel
theorem dX3_look_74 : decode cX3_look 74 = .ok (.iconst (-1), 1) := by decide +kernel
theorem dX3_look_75 : decode cX3_look 75 = .ok (.ireturn, 1) := by decide +kernel
end
section
/-! names of are, open, look of the hall (by a program) -/
abbrev cX1_are : ByteArray := prog_1_method_11_code
def yX1_are : MethodName := ⟨RX1, "are", "(II)Z"⟩
abbrev cX1_open : ByteArray := prog_1_method_12_code
def yX1_open : MethodName := ⟨RX1, "open", "(II)Z"⟩
abbrev cX1_look : ByteArray := prog_1_method_13_code
def yX1_look : MethodName := ⟨RX1, "look", "(I)I"⟩
def wsX1_are : List Cond := .code yX1_are cX1_are 3 (some .boolean) :: ([.fieldLink RX1 11 "MoverHall" "sectors" "[LMoverHall$Sector;", .methodLink RX1 38 yX1_isSector, .instanceMethod yX1_isSector, .selects RX1 yX1_isSector yX1_isSector, .initialized RX1, .code yX1_isSector cX1_isSector 2 (some .boolean), .fieldLink RX1 20 "MoverHall" "sectorCount" "I", .instanceMethod yX0_hasNeighbour, .initialized RX0, .selects RX0 yX0_hasNeighbour yX0_hasNeighbour, .code yX0_hasNeighbour cX0_hasNeighbour 2 (some .boolean), .fieldLink RX0 27 "MoverHall$Sector" "neighbours" "I"] ++ wsX10 ++ wsX00)
def wsX1_open : List Cond := .code yX1_open cX1_open 6 (some .boolean) :: ([.methodLink RX1 115 yX1_are, .instanceMethod yX1_are, .selects RX1 yX1_are yX1_are, .code yX1_are cX1_are 3 (some .boolean), .fieldLink RX1 11 "MoverHall" "sectors" "[LMoverHall$Sector;", .methodLink RX1 38 yX1_isSector, .instanceMethod yX1_isSector, .selects RX1 yX1_isSector yX1_isSector, .initialized RX1, .code yX1_isSector cX1_isSector 2 (some .boolean), .fieldLink RX1 20 "MoverHall" "sectorCount" "I", .instanceMethod yX0_hasNeighbour, .initialized RX0, .selects RX0 yX0_hasNeighbour yX0_hasNeighbour, .code yX0_hasNeighbour cX0_hasNeighbour 2 (some .boolean), .fieldLink RX0 27 "MoverHall$Sector" "neighbours" "I", .methodLink RX1 118 Lib.Math.min.name, .static Lib.Math.min.name, .code Lib.Math.min.name Lib.Math.min.code 2 (some .int), .methodLink RX1 124 Lib.Math.max.name, .static Lib.Math.max.name, .code Lib.Math.max.name Lib.Math.max.code 2 (some .int), .initialized "java/lang/Math"] ++ wsX10 ++ wsX00)
def wsX1_look : List Cond := .code yX1_look cX1_look 2 (some .int) :: ([.fieldLink RX1 20 "MoverHall" "sectorCount" "I", .fieldLink RX1 49 "MoverHall" "pairCount" "I", .fieldLink RX1 55 "MoverHall" "tickCount" "I", .fieldLink RX1 58 "MoverHall" "moverCount" "I", .fieldLink RX1 16 "MoverHall" "guestSector" "I", .fieldLink RX1 61 "MoverHall" "blockedCount" "I"] ++ wsX10)
set_option maxRecDepth 20000 in
theorem ggX1_are_X1_isSector : GoodIn wsX1_are wsX1_isSector := goodIn_r _ [6, 7, 13, 14, 15, 16, 17, 18, 19] (by decide +kernel) (by decide +kernel)
set_option maxRecDepth 20000 in
theorem gX1_are_X1_isSector : GoodIn wsX1_are (wsV RX1 38 RX1 yX1_isSector wsX1_isSector) := goodIn_app (goodIn_of _ (by decide +kernel)) ggX1_are_X1_isSector
set_option maxRecDepth 20000 in
theorem gX1_are_X0_hasNeighbour_n42 : GoodIn wsX1_are wsX0_hasNeighbour := goodIn_r _ [11, 12, 20, 21, 22, 23, 24, 25, 26, 27, 28, 29, 30, 31, 32] (by decide +kernel) (by decide +kernel)
set_option maxRecDepth 20000 in
theorem ggX1_open_X1_are : GoodIn wsX1_open wsX1_are := goodIn_r _ [4, 5, 6, 7, 8, 9, 10, 11, 12, 13, 14, 15, 16, 24, 25, 26, 27, 28, 29, 30, 31, 32, 33, 34, 35, 36, 37, 38, 39, 40, 41, 42, 43] (by decide +kernel) (by decide +kernel)
set_option maxRecDepth 20000 in
theorem gX1_open_X1_are : GoodIn wsX1_open (wsV RX1 115 RX1 yX1_are wsX1_are) := goodIn_app (goodIn_of _ (by decide +kernel)) ggX1_open_X1_are
theorem dX1_are_0 : decode cX1_are 0 = .ok (.aload_n 0, 1) := by decide +kernel
theorem dX1_are_1 : decode cX1_are 1 = .ok (.iload_n 1, 1) := by decide +kernel
theorem dX1_are_2 : decode cX1_are 2 = .ok (.invokevirtual 38, 3) := by decide +kernel
theorem dX1_are_5 : decode cX1_are 5 = .ok (.ifCond .eq 28, 3) := by decide +kernel
theorem dX1_are_8 : decode cX1_are 8 = .ok (.aload_n 0, 1) := by decide +kernel
theorem dX1_are_9 : decode cX1_are 9 = .ok (.iload_n 2, 1) := by decide +kernel
theorem dX1_are_10 : decode cX1_are 10 = .ok (.invokevirtual 38, 3) := by decide +kernel
theorem dX1_are_13 : decode cX1_are 13 = .ok (.ifCond .eq 20, 3) := by decide +kernel
theorem dX1_are_16 : decode cX1_are 16 = .ok (.aload_n 0, 1) := by decide +kernel
theorem dX1_are_17 : decode cX1_are 17 = .ok (.getfield 11, 3) := by decide +kernel
theorem dX1_are_20 : decode cX1_are 20 = .ok (.iload_n 1, 1) := by decide +kernel
theorem dX1_are_21 : decode cX1_are 21 = .ok (.aaload, 1) := by decide +kernel
theorem dX1_are_22 : decode cX1_are 22 = .ok (.iload_n 2, 1) := by decide +kernel
theorem dX1_are_23 : decode cX1_are 23 = .ok (.invokevirtual 42, 3) := by decide +kernel
theorem dX1_are_26 : decode cX1_are 26 = .ok (.ifCond .eq 7, 3) := by decide +kernel
theorem dX1_are_29 : decode cX1_are 29 = .ok (.iconst 1, 1) := by decide +kernel
theorem dX1_are_30 : decode cX1_are 30 = .ok (.goto 4, 3) := by decide +kernel
theorem dX1_are_33 : decode cX1_are 33 = .ok (.iconst 0, 1) := by decide +kernel
theorem dX1_are_34 : decode cX1_are 34 = .ok (.ireturn, 1) := by decide +kernel
theorem dX1_open_0 : decode cX1_open 0 = .ok (.aload_n 0, 1) := by decide +kernel
theorem dX1_open_1 : decode cX1_open 1 = .ok (.iload_n 1, 1) := by decide +kernel
theorem dX1_open_2 : decode cX1_open 2 = .ok (.iload_n 2, 1) := by decide +kernel
theorem dX1_open_3 : decode cX1_open 3 = .ok (.invokevirtual 115, 3) := by decide +kernel
theorem dX1_open_6 : decode cX1_open 6 = .ok (.ifCond .ne 5, 3) := by decide +kernel
theorem dX1_open_9 : decode cX1_open 9 = .ok (.iconst 0, 1) := by decide +kernel
theorem dX1_open_10 : decode cX1_open 10 = .ok (.ireturn, 1) := by decide +kernel
theorem dX1_open_11 : decode cX1_open 11 = .ok (.aload_n 0, 1) := by decide +kernel
theorem dX1_open_12 : decode cX1_open 12 = .ok (.getfield 11, 3) := by decide +kernel
theorem dX1_open_15 : decode cX1_open 15 = .ok (.iload_n 1, 1) := by decide +kernel
theorem dX1_open_16 : decode cX1_open 16 = .ok (.aaload, 1) := by decide +kernel
theorem dX1_open_17 : decode cX1_open 17 = .ok (.astore_n 3, 1) := by decide +kernel
theorem dX1_open_18 : decode cX1_open 18 = .ok (.aload_n 0, 1) := by decide +kernel
theorem dX1_open_19 : decode cX1_open 19 = .ok (.getfield 11, 3) := by decide +kernel
theorem dX1_open_22 : decode cX1_open 22 = .ok (.iload_n 2, 1) := by decide +kernel
theorem dX1_open_23 : decode cX1_open 23 = .ok (.aaload, 1) := by decide +kernel
theorem dX1_open_24 : decode cX1_open 24 = .ok (.astore 4, 2) := by decide +kernel
theorem dX1_open_26 : decode cX1_open 26 = .ok (.aload_n 3, 1) := by decide +kernel
theorem dX1_open_27 : decode cX1_open 27 = .ok (.getfield 93, 3) := by decide +kernel
theorem dX1_open_30 : decode cX1_open 30 = .ok (.aload 4, 2) := by decide +kernel
theorem dX1_open_32 : decode cX1_open 32 = .ok (.getfield 93, 3) := by decide +kernel
theorem dX1_open_35 : decode cX1_open 35 = .ok (.invokestatic 118, 3) := by decide +kernel
theorem dX1_open_38 : decode cX1_open 38 = .ok (.aload_n 3, 1) := by decide +kernel
theorem dX1_open_39 : decode cX1_open 39 = .ok (.getfield 90, 3) := by decide +kernel
theorem dX1_open_42 : decode cX1_open 42 = .ok (.aload 4, 2) := by decide +kernel
theorem dX1_open_44 : decode cX1_open 44 = .ok (.getfield 90, 3) := by decide +kernel
theorem dX1_open_47 : decode cX1_open 47 = .ok (.invokestatic 124, 3) := by decide +kernel
theorem dX1_open_50 : decode cX1_open 50 = .ok (.isub, 1) := by decide +kernel
theorem dX1_open_51 : decode cX1_open 51 = .ok (.istore 5, 2) := by decide +kernel
theorem dX1_open_53 : decode cX1_open 53 = .ok (.aload 4, 2) := by decide +kernel
theorem dX1_open_55 : decode cX1_open 55 = .ok (.getfield 90, 3) := by decide +kernel
theorem dX1_open_58 : decode cX1_open 58 = .ok (.aload_n 3, 1) := by decide +kernel
theorem dX1_open_59 : decode cX1_open 59 = .ok (.getfield 90, 3) := by decide +kernel
theorem dX1_open_62 : decode cX1_open 62 = .ok (.isub, 1) := by decide +kernel
theorem dX1_open_63 : decode cX1_open 63 = .ok (.bipush 24, 2) := by decide +kernel
theorem dX1_open_65 : decode cX1_open 65 = .ok (.if_icmp .gt 14, 3) := by decide +kernel
theorem dX1_open_68 : decode cX1_open 68 = .ok (.iload 5, 2) := by decide +kernel
theorem dX1_open_70 : decode cX1_open 70 = .ok (.bipush 56, 2) := by decide +kernel
theorem dX1_open_72 : decode cX1_open 72 = .ok (.if_icmp .lt 7, 3) := by decide +kernel
theorem dX1_open_75 : decode cX1_open 75 = .ok (.iconst 1, 1) := by decide +kernel
theorem dX1_open_76 : decode cX1_open 76 = .ok (.goto 4, 3) := by decide +kernel
theorem dX1_open_79 : decode cX1_open 79 = .ok (.iconst 0, 1) := by decide +kernel
theorem dX1_open_80 : decode cX1_open 80 = .ok (.ireturn, 1) := by decide +kernel
theorem dX1_look_0 : decode cX1_look 0 = .ok (.iload_n 1, 1) := by decide +kernel
theorem dX1_look_1 : decode cX1_look 1 = .ok (.tableswitch 69 0 5 #[39, 44, 49, 54, 59, 64], 39) := by decide +kernel
theorem dX1_look_40 : decode cX1_look 40 = .ok (.aload_n 0, 1) := by decide +kernel
theorem dX1_look_41 : decode cX1_look 41 = .ok (.getfield 20, 3) := by decide +kernel
theorem dX1_look_44 : decode cX1_look 44 = .ok (.ireturn, 1) := by decide +kernel
theorem dX1_look_45 : decode cX1_look 45 = .ok (.aload_n 0, 1) := by decide +kernel
theorem dX1_look_46 : decode cX1_look 46 = .ok (.getfield 49, 3) := by decide +kernel
theorem dX1_look_49 : decode cX1_look 49 = .ok (.ireturn, 1) := by decide +kernel
theorem dX1_look_50 : decode cX1_look 50 = .ok (.aload_n 0, 1) := by decide +kernel
theorem dX1_look_51 : decode cX1_look 51 = .ok (.getfield 55, 3) := by decide +kernel
theorem dX1_look_54 : decode cX1_look 54 = .ok (.ireturn, 1) := by decide +kernel
theorem dX1_look_55 : decode cX1_look 55 = .ok (.aload_n 0, 1) := by decide +kernel
theorem dX1_look_56 : decode cX1_look 56 = .ok (.getfield 58, 3) := by decide +kernel
theorem dX1_look_59 : decode cX1_look 59 = .ok (.ireturn, 1) := by decide +kernel
theorem dX1_look_60 : decode cX1_look 60 = .ok (.aload_n 0, 1) := by decide +kernel
theorem dX1_look_61 : decode cX1_look 61 = .ok (.getfield 16, 3) := by decide +kernel
theorem dX1_look_64 : decode cX1_look 64 = .ok (.ireturn, 1) := by decide +kernel
theorem dX1_look_65 : decode cX1_look 65 = .ok (.aload_n 0, 1) := by decide +kernel
theorem dX1_look_66 : decode cX1_look 66 = .ok (.getfield 61, 3) := by decide +kernel
theorem dX1_look_69 : decode cX1_look 69 = .ok (.ireturn, 1) := by decide +kernel
theorem dX1_look_70 : decode cX1_look 70 = .ok (.iconst (-1), 1) := by decide +kernel
theorem dX1_look_71 : decode cX1_look 71 = .ok (.ireturn, 1) := by decide +kernel
end
section
abbrev vwCl : List vw_C := [(RX0, TX0, 13), (RX1, TX1, 7), (RX3, TX3, 19)]
/-! THE FRAME: one form for every contract. A method called with 'av' in the world 'w' answers r and leaves the world w', at the same addresses. -/
/-- words of nest mates: they go beside the worlds, for a contract's own words can't hold them -/
def hw_isN : Cond → Bool
  | .fieldLinkNest .. => true
  | .methodLinkNest .. => true
  | _ => false
def hw_NL : List Cond := [Cond.methodLinkNest RX1 15 yX0_init "MoverHall", Cond.methodLinkNest RX1 31 yX0_plan "MoverHall", Cond.methodLinkNest RX1 42 yX0_hasNeighbour "MoverHall", Cond.methodLinkNest RX1 45 yX0_addNeighbour "MoverHall", Cond.methodLinkNest RX1 52 yX0_goBackToPlan "MoverHall", Cond.fieldLinkNest RX1 67 "MoverHall$Sector" "mover" "I" "MoverHall", Cond.fieldLinkNest RX1 74 "MoverHall$Sector" "way" "I" "MoverHall", Cond.methodLinkNest RX1 77 yX0_go "MoverHall", Cond.fieldLinkNest RX1 80 "MoverHall$Sector" "tag" "I" "MoverHall", Cond.fieldLinkNest RX1 90 "MoverHall$Sector" "floor" "I" "MoverHall", Cond.fieldLinkNest RX1 93 "MoverHall$Sector" "ceiling" "I" "MoverHall", Cond.fieldLinkNest RX1 100 "MoverHall$Sector" "waitLeft" "I" "MoverHall", Cond.fieldLinkNest RX1 112 "MoverHall$Sector" "wayEnd" "I" "MoverHall", Cond.methodLinkNest RX1 127 yX0_hasNeighbours "MoverHall", Cond.fieldLinkNest RX1 131 "MoverHall$Sector" "kind" "I" "MoverHall", Cond.fieldLinkNest RX1 134 "MoverHall$Sector" "light" "I" "MoverHall", Cond.fieldLinkNest RX1 137 "MoverHall$Sector" "startFloor" "I" "MoverHall", Cond.methodLinkNest RX1 144 yX0_dropMover "MoverHall", Cond.methodLinkNest RX1 151 yX0_waitOneTick "MoverHall", Cond.methodLinkNest RX1 167 yX0_waitFor "MoverHall"]
theorem hw_NL_ok : ∀ w ∈ hw_NL, hw_isN w = true := by decide +kernel
def hw_N (NL : List Cond) (U : State) : Prop := ∀ w ∈ NL, va_Nw w U
theorem hw_N.warm {NL : List Cond} (hn : ∀ w ∈ NL, hw_isN w = true) {s U : State} (hW : s.WarmedH U.vm) (h : hw_N NL s) : hw_N NL U := by
  intro w hw
  have h1 := hn w hw
  have h2 := h w hw
  cases w <;> first | exact va_Nw.warmF hW h2 | exact va_Nw.warmM hW h2 | (simp [hw_isN] at h1; done)
theorem hw_N.same {NL : List Cond} (hn : ∀ w ∈ NL, hw_isN w = true) {u U : State} (hvm : u.vm = U.vm) (h : hw_N NL u) : hw_N NL U := by
  intro w hw
  have h1 := hn w hw
  have h2 := h w hw
  cases w <;> first | (simp [hw_isN] at h1; done) | exact va_Nw.same rfl hvm h2
/-- the addresses of a world -/
theorem hw_D {A : Nat → Prop} {w w' : va_W} (hD : va_D A w) (ha : w'.map Prod.fst = w.map Prod.fst) : va_D A w' := by
  have key : ∀ (k : Nat) (q : Nat × va_E), w'[k]? = some q → ∃ e, w[k]? = some (q.1, e) := by
    intro k q hq
    have h1 : (w'.map Prod.fst)[k]? = some q.1 := by rw [List.getElem?_map, hq]; rfl
    rw [ha, List.getElem?_map] at h1
    cases hk : w[k]? with
    | none => rw [hk] at h1; cases h1
    | some z =>
      rw [hk] at h1
      obtain ⟨z1, z2⟩ := z
      have h2 : z1 = q.1 := Option.some.inj h1
      subst h2
      exact ⟨z2, rfl⟩
  refine ⟨fun i j x y hx hy hxy => ?_, fun k q hq => ?_⟩
  · obtain ⟨e1, h1⟩ := key i x hx
    obtain ⟨e2, h2⟩ := key j y hy
    exact hD.1 i j _ _ h1 h2 hxy
  · obtain ⟨e1, h1⟩ := key k q hq
    exact hD.2 k (q.1, e1) h1
/-- a contract's start -/
def hw_B (D : va_G) (tys : List (ClassId × FieldType)) (w : va_W) (sz : Nat) (U : State) : Prop := U.heap.size = sz ∧ va_P D vwCl w U.heap ∧ va_K D vwCl tys U ∧ hw_N hw_NL U ∧ va_D (fun _ => True) w
theorem hw_blind {av : List Value} {D : va_G} {tys : List (ClassId × FieldType)} {w : va_W} {sz : Nat} : FrameBlind (va_Pc av (hw_B D tys w sz)) := fun a U g mk q => by
  obtain ⟨q0, q1, qP, qK, qN, qD⟩ := q
  exact ⟨q0, q1, qP, va_K.moved (u := U) (U := U.calling g mk a) (Vm.Alike.refl U.vm) qK, hw_N.same hw_NL_ok (u := U) (U := U.calling g mk a) rfl qN, qD⟩
/-- the contract of a method that answers an int (or a boolean) -/
def MI (l : Launch) (D : va_G) (tys : List (ClassId × FieldType)) (y : MethodName) (ws : List Cond) (rm : Room) (av : List Value) (w : va_W) (r : Int32) (w' : va_W) : Prop :=
  ∀ sz : Nat, Met l y ws rm (va_Pc av (hw_B D tys w sz)) (va_Qi (fun (r' : Int32) (_ : Unit) => r' = r) (fun _ t => va_P D vwCl w' t.heap) (va_A w sz)) 0 0 (va_A w sz)
/-- the contract of a method that answers nothing -/
def MV (l : Launch) (D : va_G) (tys : List (ClassId × FieldType)) (y : MethodName) (ws : List Cond) (rm : Room) (av : List Value) (w : va_W) (w' : va_W) : Prop :=
  ∀ sz : Nat, Met l y ws rm (va_Pc av (hw_B D tys w sz)) (va_Qv (fun (_ : Unit) => True) (fun _ t => va_P D vwCl w' t.heap) (va_A w sz)) 0 0 (va_A w sz)
/-- a method's ground: the machine, its code, its words, the classes -/
def hw_C (p : Program) (s : State) (m : MethodId) (args : Array Value) (meth : Method) (c : Code) (cc : ByteArray) (ret : Option FieldType) (nL : Nat) (Ts : List Cond) (own : String) (D : va_G) (tys : List (ClassId × FieldType)) (A : Nat → Prop) : Prop :=
  (p.tables.exec = Jvm.exec ∧ c.code = cc ∧ c.maxLocals = nL ∧ s.vm.findClass own = some m.cls ∧ ∀ w ∈ Ts, w.before args s = true) ∧ meth.sig.returnType = ret ∧ meth.locks = false ∧ va_K D vwCl tys s ∧ hw_N hw_NL s ∧ (∀ q, s.heap.size ≤ q → A q)
/-- where a method stands: its world, apart, and nothing else changed -/
def hw_T (D : va_G) (A : Nat → Prop) (H0 : Heap) (w : va_W) (H : Heap) (locs : List Loc) : Prop := va_P D vwCl w H ∧ va_D A w ∧ va_S A H0 H locs
section HW
variable {p : Program} {l : Launch} {e : Env} {R : Room} {s : State} {m : MethodId} {args : Array Value} {below : List Frame} {meth : Method} {c : Code} {H : Heap} {locs : List Loc} {cells slots : Nat} {Q : State → Prop}
variable {cc : ByteArray} {ret : Option FieldType} {nL : Nat} {Ts : List Cond} {own : String} {D : va_G} {tys : List (ClassId × FieldType)} {A : Nat → Prop} {w w' : va_W}
theorem MI.start {y : MethodName} {ws ws' : List Cond} {rm : Room} {av : List Value} {r : Int32} {maxL : Nat} {ty : FieldType} (hy : plainName y.cls = true) (hw : ws = Cond.code y cc maxL (some ty) :: ws') (hlen : (lg_sl av).length ≤ maxL)
    (body : ∀ (p : Program) (e : Env) (s : State) (m : MethodId) (args : Array Value) (below : List Frame) (meth : Method) (c : Code) (A : Nat → Prop) (ls : Array Slot), hw_C p s m args meth c cc (some ty) maxL ws y.cls D tys A → hw_T D A s.heap w s.heap [] → lv_has ls maxL (lv_args 0 av) →
      W p l e rm s m args below meth c s.heap [] 0 0 (MQ below (va_Qi (fun (r' : Int32) (_ : Unit) => r' = r) (fun _ t => va_P D vwCl w' t.heap) A) args s 0 0 A) (F0 m 0 ls [])) : MI l D tys y ws rm av w r w' := by
  intro sz
  refine Met.ofW (cc := cc) (maxL := maxL) (ret := some ty) hy hw ?_
  intro p e s m args below meth c s₁ B hml hv
  obtain ⟨rfl, hsz, hP, hK, hN, hD0⟩ := hv
  subst hsz
  have hts := atoms_spec (ws := ws) B.pre
  have hD := hD0.self (sz := s.heap.size)
  have hl := lv_entry av (n := maxL) hlen
  rw [lg_entry_eq]
  exact body p e s m _ below meth c (va_A w s.heap.size) _ ⟨⟨B.exec, B.bytes, hml, findClass_of_methodNamed B.named, hts⟩, B.returns, B.notSynchronized, hK, hN, fun q h => Or.inr h⟩ ⟨hP, hD, va_S.rf⟩ hl
theorem MV.start {y : MethodName} {ws ws' : List Cond} {rm : Room} {av : List Value} {maxL : Nat} (hy : plainName y.cls = true) (hw : ws = Cond.code y cc maxL none :: ws') (hlen : (lg_sl av).length ≤ maxL)
    (body : ∀ (p : Program) (e : Env) (s : State) (m : MethodId) (args : Array Value) (below : List Frame) (meth : Method) (c : Code) (A : Nat → Prop) (ls : Array Slot), hw_C p s m args meth c cc none maxL ws y.cls D tys A → hw_T D A s.heap w s.heap [] → lv_has ls maxL (lv_args 0 av) →
      W p l e rm s m args below meth c s.heap [] 0 0 (MQ below (va_Qv (fun (_ : Unit) => True) (fun _ t => va_P D vwCl w' t.heap) A) args s 0 0 A) (F0 m 0 ls [])) : MV l D tys y ws rm av w w' := by
  intro sz
  refine Met.ofW (cc := cc) (maxL := maxL) (ret := none) hy hw ?_
  intro p e s m args below meth c s₁ B hml hv
  obtain ⟨rfl, hsz, hP, hK, hN, hD0⟩ := hv
  subst hsz
  have hts := atoms_spec (ws := ws) B.pre
  have hD := hD0.self (sz := s.heap.size)
  have hl := lv_entry av (n := maxL) hlen
  rw [lg_entry_eq]
  exact body p e s m _ below meth c (va_A w s.heap.size) _ ⟨⟨B.exec, B.bytes, hml, findClass_of_methodNamed B.named, hts⟩, B.returns, B.notSynchronized, hK, hN, fun q h => Or.inr h⟩ ⟨hP, hD, va_S.rf⟩ hl
theorem hw_iret {ty : FieldType} (C : hw_C p s m args meth c cc (some ty) nL Ts own D tys A) (T : hw_T D A s.heap w H locs) {v r : Int32} {pc : Nat} {ls : Array Slot} (hn : narrow ty (.int v) = .int v) (hv : v = r) (hww : w = w') (hdg : decode cc pc = .ok (.ireturn, 1)) :
    W p l e R s m args below meth c H locs 0 0 (MQ below (va_Qi (fun (r' : Int32) (_ : Unit) => r' = r) (fun _ t => va_P D vwCl w' t.heap) A) args s 0 0 A) (F0 m pc ls [.int v]) := by
  subst hv
  subst hww
  exact W.zret C.1.1 C.1.2.1 C.2.1 hn (fun t ht hW => ⟨⟨v, (), rfl, rfl, by show va_P D vwCl w t.heap; rw [ht]; exact T.1⟩, T.2.2.F ht⟩) T.2.2.2.2 hdg C.2.2.1
theorem hw_vret (C : hw_C p s m args meth c cc none nL Ts own D tys A) (T : hw_T D A s.heap w H locs) {pc : Nat} {ls : Array Slot} (hww : w = w') (hdg : decode cc pc = .ok (.return_, 1)) :
    W p l e R s m args below meth c H locs 0 0 (MQ below (va_Qv (fun (_ : Unit) => True) (fun _ t => va_P D vwCl w' t.heap) A) args s 0 0 A) (F0 m pc ls []) := by
  subst hww
  exact W.vret C.1.1 C.1.2.1 C.2.1 (fun t ht hW => ⟨⟨(), rfl, trivial, by show va_P D vwCl w t.heap; rw [ht]; exact T.1⟩, T.2.2.F ht⟩) T.2.2.2.2 hdg C.2.2.1
/-- which cells a call may change: the caller's own -/
theorem hw_free (C : hw_C p s m args meth c cc ret nL Ts own D tys A) (T : hw_T D A s.heap w H locs) : ∀ q, va_A w H.size q → A q := by
  intro q h
  rcases h with ⟨k, e, h⟩ | h
  · exact T.2.1.2 k (q, e) h
  · exact C.2.2.2.2.2 q (Nat.le_trans T.2.2.1 h)
theorem hw_pre (C : hw_C p s m args meth c cc ret nL Ts own D tys A) (T : hw_T D A s.heap w H locs) (U : State) (hU : U.heap = H) (hW : s.WarmedH U.vm) : hw_B D tys w H.size U :=
  ⟨by rw [hU], by rw [hU]; exact T.1, va_K.moved hW.alike C.2.2.2.1, hw_N.warm hw_NL_ok hW C.2.2.2.2.1, T.2.1.weaken (fun _ _ _ _ => trivial)⟩
variable {y : MethodName} {bytes : ByteArray} {maxL n index : Nat} {rt : Option FieldType} {ws : List Cond} {rm : Room} {Cn host : String} {b : Addr} {As rest st : List Value} {pc : Nat} {ls : Array Slot} {r : Int32}
/-- behind a call that answers an int -/
theorem hw_backi (C : hw_C p s m args meth c cc ret nL Ts own D tys A) (T : hw_T D A s.heap w H locs) {a : Array Value} (ha : w'.map Prod.fst = w.map Prod.fst)
    (hr : va_Run p l e R s m args below meth c H locs cells slots 0 0 (F0 m pc ls st) rest (va_Qi (fun (r' : Int32) (_ : Unit) => r' = r) (fun _ t => va_P D vwCl w' t.heap) (va_A w H.size) a) (va_A w H.size))
    (kk : ∀ (H1 : Heap) (locs1 : List Loc), hw_T D A s.heap w' H1 locs1 → W p l e R s m args below meth c H1 locs1 cells slots Q (F0 m (pc + 3) ls (.int r :: rest))) : W p l e R s m args below meth c H locs cells slots Q (F0 m pc ls st) := by
  refine va_calli hr T.2.2 (fun q _ h => hw_free C T q h) (hw_free C T) (fun r' u t H1 locs1 ht hvm hw hB hz hk hS => ?_)
  subst hw
  exact kk H1 locs1 ⟨by rw [← ht]; exact hB, hw_D T.2.1 ha, hS⟩
theorem hw_backv (C : hw_C p s m args meth c cc ret nL Ts own D tys A) (T : hw_T D A s.heap w H locs) {a : Array Value} (ha : w'.map Prod.fst = w.map Prod.fst)
    (hr : va_Run p l e R s m args below meth c H locs cells slots 0 0 (F0 m pc ls st) rest (va_Qv (fun (_ : Unit) => True) (fun _ t => va_P D vwCl w' t.heap) (va_A w H.size) a) (va_A w H.size))
    (kk : ∀ (H1 : Heap) (locs1 : List Loc), hw_T D A s.heap w' H1 locs1 → W p l e R s m args below meth c H1 locs1 cells slots Q (F0 m (pc + 3) ls rest)) : W p l e R s m args below meth c H locs cells slots Q (F0 m pc ls st) := by
  refine va_callv hr T.2.2 (fun q _ h => hw_free C T q h) (hw_free C T) (fun u t H1 locs1 ht hvm hw hB hz hk hS => ?_)
  exact kk H1 locs1 ⟨by rw [← ht]; exact hB, hw_D T.2.1 ha, hS⟩
/-- who is called: an object of the world -/
def hw_is (w : va_W) (b : Nat) (Cn : String) : Prop := ∃ (q0 ci : Nat) (q : vw_C) (fs : List Value), vwCl[ci]? = some q ∧ q.1 = Cn ∧ w[q0]? = some (b, .inr (ci, fs))
theorem hw_recv (C : hw_C p s m args meth c cc ret nL Ts own D tys A) (T : hw_T D A s.heap w H locs) (h : hw_is w b Cn) : ∃ cellB : Cell, H[b]? = some cellB ∧ cellB.vm.isStatics = false ∧ s.vm.findClass Cn = some cellB.cls := by
  obtain ⟨q0, ci, q, fs, h1, rfl, h3⟩ := h
  exact va_recv C.2.2.2.1 T.1 h1 h3
/-- invokevirtual, of the class's own method -/
theorem hw_Vi (C : hw_C p s m args meth c cc ret nL Ts own D tys A) (T : hw_T D A s.heap w H locs) (hM : MI l D tys y ws rm (.ref b :: As) w r w') (cw : CallW R s args own Cn index y bytes maxL rt ws rm 0 0 n) (hb : hw_is w b Cn) (ha : w'.map Prod.fst = w.map Prod.fst)
    (hn : As.length = n) (hls : ls.size = nL) (hst : st = As.reverse ++ .ref b :: rest) (hroom : (rest.map fun v => v.category).sum ≤ 8) (hdg : decode cc pc = .ok (.invokevirtual index, 3)) (hR : cells + 0 ≤ R.cells ∧ slots + 0 ≤ R.slots)
    (kk : ∀ (H1 : Heap) (locs1 : List Loc), hw_T D A s.heap w' H1 locs1 → W p l e R s m args below meth c H1 locs1 cells slots Q (F0 m (pc + 3) ls (.int r :: rest))) : W p l e R s m args below meth c H locs cells slots Q (F0 m pc ls st) :=
  hw_backi C T ha (va_runV C.1 (hM H.size) cw ⟨hw_blind, hw_recv C T hb, fun U hU hW => ⟨rfl, hw_pre C T U hU hW⟩⟩ rfl hn hls hst (lv_room hroom) hdg hR) kk
theorem hw_Vv (C : hw_C p s m args meth c cc ret nL Ts own D tys A) (T : hw_T D A s.heap w H locs) (hM : MV l D tys y ws rm (.ref b :: As) w w') (cw : CallW R s args own Cn index y bytes maxL rt ws rm 0 0 n) (hb : hw_is w b Cn) (ha : w'.map Prod.fst = w.map Prod.fst)
    (hn : As.length = n) (hls : ls.size = nL) (hst : st = As.reverse ++ .ref b :: rest) (hroom : (rest.map fun v => v.category).sum ≤ 8) (hdg : decode cc pc = .ok (.invokevirtual index, 3)) (hR : cells + 0 ≤ R.cells ∧ slots + 0 ≤ R.slots)
    (kk : ∀ (H1 : Heap) (locs1 : List Loc), hw_T D A s.heap w' H1 locs1 → W p l e R s m args below meth c H1 locs1 cells slots Q (F0 m (pc + 3) ls rest)) : W p l e R s m args below meth c H locs cells slots Q (F0 m pc ls st) :=
  hw_backv C T ha (va_runV C.1 (hM H.size) cw ⟨hw_blind, hw_recv C T hb, fun U hU hW => ⟨rfl, hw_pre C T U hU hW⟩⟩ rfl hn hls hst (lv_room hroom) hdg hR) kk
/-- invokestatic, of the class's own method -/
theorem hw_Si (C : hw_C p s m args meth c cc ret nL Ts own D tys A) (T : hw_T D A s.heap w H locs) (hM : MI l D tys y ws rm As w r w') (cw : CallB R s args own index y bytes maxL rt ws rm 0 0 n ∧ (Cond.static y).before args s = true) (ha : w'.map Prod.fst = w.map Prod.fst)
    (hn : As.length = n) (hls : ls.size = nL) (hst : st = As.reverse ++ rest) (hroom : (rest.map fun v => v.category).sum ≤ 8) (hdg : decode cc pc = .ok (.invokestatic index, 3)) (hR : cells + 0 ≤ R.cells ∧ slots + 0 ≤ R.slots)
    (kk : ∀ (H1 : Heap) (locs1 : List Loc), hw_T D A s.heap w' H1 locs1 → W p l e R s m args below meth c H1 locs1 cells slots Q (F0 m (pc + 3) ls (.int r :: rest))) : W p l e R s m args below meth c H locs cells slots Q (F0 m pc ls st) :=
  hw_backi C T ha (va_runS C.1 (hM H.size) cw ⟨hw_blind, fun U hU hW => ⟨rfl, hw_pre C T U hU hW⟩⟩ rfl hn hls hst (lv_room hroom) hdg hR) kk
/-- invokevirtual, of a nest mate's method -/
theorem hw_Ni (C : hw_C p s m args meth c cc ret nL Ts own D tys A) (T : hw_T D A s.heap w H locs) (hM : MI l D tys y ws rm (.ref b :: As) w r w') (cw : va_CN R s args own index y host bytes maxL rt ws rm 0 0 n ∧ (Cond.instanceMethod y).before args s = true ∧ (Cond.selects Cn y y).before args s = true) (hb : hw_is w b Cn) (ha : w'.map Prod.fst = w.map Prod.fst)
    (hn : As.length = n) (hls : ls.size = nL) (hst : st = As.reverse ++ .ref b :: rest) (hroom : (rest.map fun v => v.category).sum ≤ 8) (hdg : decode cc pc = .ok (.invokevirtual index, 3)) (hR : cells + 0 ≤ R.cells ∧ slots + 0 ≤ R.slots)
    (kk : ∀ (H1 : Heap) (locs1 : List Loc), hw_T D A s.heap w' H1 locs1 → W p l e R s m args below meth c H1 locs1 cells slots Q (F0 m (pc + 3) ls (.int r :: rest))) : W p l e R s m args below meth c H locs cells slots Q (F0 m pc ls st) :=
  hw_backi C T ha (va_runVN C.1 (hM H.size) cw ⟨hw_blind, hw_recv C T hb, fun U hU hW => ⟨rfl, hw_pre C T U hU hW⟩⟩ rfl hn hls hst (lv_room hroom) hdg hR) kk
theorem hw_Nv (C : hw_C p s m args meth c cc ret nL Ts own D tys A) (T : hw_T D A s.heap w H locs) (hM : MV l D tys y ws rm (.ref b :: As) w w') (cw : va_CN R s args own index y host bytes maxL rt ws rm 0 0 n ∧ (Cond.instanceMethod y).before args s = true ∧ (Cond.selects Cn y y).before args s = true) (hb : hw_is w b Cn) (ha : w'.map Prod.fst = w.map Prod.fst)
    (hn : As.length = n) (hls : ls.size = nL) (hst : st = As.reverse ++ .ref b :: rest) (hroom : (rest.map fun v => v.category).sum ≤ 8) (hdg : decode cc pc = .ok (.invokevirtual index, 3)) (hR : cells + 0 ≤ R.cells ∧ slots + 0 ≤ R.slots)
    (kk : ∀ (H1 : Heap) (locs1 : List Loc), hw_T D A s.heap w' H1 locs1 → W p l e R s m args below meth c H1 locs1 cells slots Q (F0 m (pc + 3) ls rest)) : W p l e R s m args below meth c H locs cells slots Q (F0 m pc ls st) :=
  hw_backv C T ha (va_runVN C.1 (hM H.size) cw ⟨hw_blind, hw_recv C T hb, fun U hU hW => ⟨rfl, hw_pre C T U hU hW⟩⟩ rfl hn hls hst (lv_room hroom) hdg hR) kk
end HW
/-! Two worlds side by side: a call in the first leaves the second as it was. -/
def hw_T2 (D : va_G) (A : Nat → Prop) (H0 : Heap) (w v : va_W) (H : Heap) (locs : List Loc) : Prop := va_P D vwCl w H ∧ va_P D vwCl v H ∧ va_D A (w ++ v) ∧ va_S A H0 H locs
theorem hw_Dl {A : Nat → Prop} {w v : va_W} (h : va_D A (w ++ v)) : va_D A w := by
  have key : ∀ (k : Nat) (q : Nat × va_E), w[k]? = some q → (w ++ v)[k]? = some q := fun k q hq => by
    rw [List.getElem?_append_left (List.getElem?_eq_some_iff.mp hq).1]; exact hq
  exact ⟨fun i j x y hx hy hxy => h.1 i j x y (key i x hx) (key j y hy) hxy, fun k q hq => h.2 k q (key k q hq)⟩
theorem hw_Dr {A : Nat → Prop} {w v : va_W} (h : va_D A (w ++ v)) : va_D A v := by
  have key : ∀ (k : Nat) (q : Nat × va_E), v[k]? = some q → (w ++ v)[w.length + k]? = some q := fun k q hq => by
    rw [List.getElem?_append_right (Nat.le_add_right _ _), Nat.add_sub_cancel_left]; exact hq
  refine ⟨fun i j x y hx hy hxy => ?_, fun k q hq => h.2 _ q (key k q hq)⟩
  have := h.1 _ _ x y (key i x hx) (key j y hy) hxy
  omega
theorem hw_Dx {A : Nat → Prop} {w v : va_W} (h : va_D A (w ++ v)) {i j : Nat} {x y : Nat × va_E} (hx : w[i]? = some x) (hy : v[j]? = some y) : x.1 ≠ y.1 := by
  intro e
  have hi := (List.getElem?_eq_some_iff.mp hx).1
  have h1 : (w ++ v)[i]? = some x := by rw [List.getElem?_append_left hi]; exact hx
  have h2 : (w ++ v)[w.length + j]? = some y := by rw [List.getElem?_append_right (Nat.le_add_right _ _), Nat.add_sub_cancel_left]; exact hy
  have := h.1 _ _ x y h1 h2 e
  omega
theorem hw_Dswap {A : Nat → Prop} {w v : va_W} (h : va_D A (w ++ v)) : va_D A (v ++ w) := va_D.app (hw_Dr h) (hw_Dl h) (fun i j p q hp hq e => hw_Dx h hq hp e.symm)
theorem hw_T2.swap {D : va_G} {A : Nat → Prop} {H0 : Heap} {w v : va_W} {H : Heap} {locs : List Loc} (T : hw_T2 D A H0 w v H locs) : hw_T2 D A H0 v w H locs := ⟨T.2.1, T.1, hw_Dswap T.2.2.1, T.2.2.2⟩
theorem hw_T2.fst {D : va_G} {A : Nat → Prop} {H0 : Heap} {w v : va_W} {H : Heap} {locs : List Loc} (T : hw_T2 D A H0 w v H locs) : hw_T D A H0 w H locs := ⟨T.1, hw_Dl T.2.2.1, T.2.2.2⟩
theorem hw_kept {D : va_G} {A : Nat → Prop} {H0 : Heap} {w w' v : va_W} {H H1 : Heap} {locs locs1 : List Loc} (T : hw_T2 D A H0 w v H locs) (ha : w'.map Prod.fst = w.map Prod.fst) (hP : va_P D vwCl w' H1) (hk : ∀ q : Nat, q < H.size → ¬ va_A w H.size q → H1[q]? = H[q]?) (hS : va_S A H0 H1 locs1) : hw_T2 D A H0 w' v H1 locs1 := by
  refine ⟨hP, T.2.1.kept (fun k q hq => hk q.1 (T.2.1 k q hq).lt (fun h => ?_)), hw_D T.2.2.1 (by rw [List.map_append, List.map_append, ha]), hS⟩
  rcases h with ⟨j, e, h⟩ | h
  · exact hw_Dx T.2.2.1 h hq rfl
  · exact absurd (T.2.1 k q hq).lt (Nat.not_lt.mpr h)
section HW2
variable {p : Program} {l : Launch} {e : Env} {R : Room} {s : State} {m : MethodId} {args : Array Value} {below : List Frame} {meth : Method} {c : Code} {H : Heap} {locs : List Loc} {cells slots : Nat} {Q : State → Prop}
variable {cc : ByteArray} {ret : Option FieldType} {nL : Nat} {Ts : List Cond} {own : String} {D : va_G} {tys : List (ClassId × FieldType)} {A : Nat → Prop} {w w' v : va_W}
variable {y : MethodName} {bytes : ByteArray} {maxL n index : Nat} {rt : Option FieldType} {ws : List Cond} {rm : Room} {Cn host : String} {b : Addr} {As rest st : List Value} {pc : Nat} {ls : Array Slot} {r : Int32}
theorem hw_2i (C : hw_C p s m args meth c cc ret nL Ts own D tys A) (T : hw_T2 D A s.heap w v H locs) (hM : MI l D tys y ws rm (.ref b :: As) w r w') (cw : CallW R s args own Cn index y bytes maxL rt ws rm 0 0 n) (hb : hw_is w b Cn) (ha : w'.map Prod.fst = w.map Prod.fst)
    (hn : As.length = n) (hls : ls.size = nL) (hst : st = As.reverse ++ .ref b :: rest) (hroom : (rest.map fun v => v.category).sum ≤ 8) (hdg : decode cc pc = .ok (.invokevirtual index, 3)) (hR : cells + 0 ≤ R.cells ∧ slots + 0 ≤ R.slots)
    (kk : ∀ (H1 : Heap) (locs1 : List Loc), hw_T2 D A s.heap w' v H1 locs1 → W p l e R s m args below meth c H1 locs1 cells slots Q (F0 m (pc + 3) ls (.int r :: rest))) : W p l e R s m args below meth c H locs cells slots Q (F0 m pc ls st) := by
  refine va_calli (va_runV C.1 (hM H.size) cw ⟨hw_blind, hw_recv C T.fst hb, fun U hU hW => ⟨rfl, hw_pre C T.fst U hU hW⟩⟩ rfl hn hls hst (lv_room hroom) hdg hR) T.2.2.2 (fun q _ h => hw_free C T.fst q h) (hw_free C T.fst) (fun r' u t H1 locs1 ht hvm hw hB hz hk hS => ?_)
  subst hw
  exact kk H1 locs1 (hw_kept T ha (by rw [← ht]; exact hB) hk hS)
theorem hw_2v (C : hw_C p s m args meth c cc ret nL Ts own D tys A) (T : hw_T2 D A s.heap w v H locs) (hM : MV l D tys y ws rm (.ref b :: As) w w') (cw : CallW R s args own Cn index y bytes maxL rt ws rm 0 0 n) (hb : hw_is w b Cn) (ha : w'.map Prod.fst = w.map Prod.fst)
    (hn : As.length = n) (hls : ls.size = nL) (hst : st = As.reverse ++ .ref b :: rest) (hroom : (rest.map fun v => v.category).sum ≤ 8) (hdg : decode cc pc = .ok (.invokevirtual index, 3)) (hR : cells + 0 ≤ R.cells ∧ slots + 0 ≤ R.slots)
    (kk : ∀ (H1 : Heap) (locs1 : List Loc), hw_T2 D A s.heap w' v H1 locs1 → W p l e R s m args below meth c H1 locs1 cells slots Q (F0 m (pc + 3) ls rest)) : W p l e R s m args below meth c H locs cells slots Q (F0 m pc ls st) := by
  refine va_callv (va_runV C.1 (hM H.size) cw ⟨hw_blind, hw_recv C T.fst hb, fun U hU hW => ⟨rfl, hw_pre C T.fst U hU hW⟩⟩ rfl hn hls hst (lv_room hroom) hdg hR) T.2.2.2 (fun q _ h => hw_free C T.fst q h) (hw_free C T.fst) (fun u t H1 locs1 ht hvm hw hB hz hk hS => ?_)
  exact kk H1 locs1 (hw_kept T ha (by rw [← ht]; exact hB) hk hS)
end HW2
end
section
/-! THE HALL's world: the hall, its array of 32 sectors, the sectors. G: the hall's numbers (sectorCount, pairCount, tickCount, moverCount, blockedCount, guestSector); S i: sector i's (plannedFloor, plannedCeiling, light, kind, tag, neighbours, floor, ceiling, mover, way, waitLeft, wayEnd, startFloor). -/
def hs_fl (f : Nat → Int32) : List Value := [.int (f 0), .int (f 1), .int (f 2), .int (f 3), .int (f 4), .int (f 5), .int (f 6), .int (f 7), .int (f 8), .int (f 9), .int (f 10), .int (f 11), .int (f 12)]
def hh_fl (a : Nat) (g : Nat → Int32) : List Value := [.ref a, .int (g 0), .int (g 1), .int (g 2), .int (g 3), .int (g 4), .int (g 5)]
def hs_pl (ad : Nat → Nat) (S : Nat → Nat → Int32) : va_W := (List.range 32).map (fun i => (ad i, .inr (0, hs_fl (S i))))
def hw_W (h a : Nat) (ad : Nat → Nat) (cA : ClassId) (G : Nat → Int32) (S : Nat → Nat → Int32) : va_W := (h, .inr (1, hh_fl a G)) :: (a, .inl (cA, 32, .inr (.inr (.inr (.inr (fun j => some (ad j))))))) :: hs_pl ad S
def up2 (S : Nat → Nat → Int32) (i k : Nat) (v : Int32) : Nat → Nat → Int32 := fun j => if j = i then upd (S i) k v else S j
theorem hs_pl_at {ad : Nat → Nat} {S : Nat → Nat → Int32} {i : Nat} (hi : i < 32) : (hs_pl ad S)[i]? = some (ad i, .inr (0, hs_fl (S i))) := by
  simp only [hs_pl, List.getElem?_map, List.getElem?_range hi]
  rfl
theorem hs_pl_set {ad : Nat → Nat} {S : Nat → Nat → Int32} {i : Nat} {g : Nat → Int32} (hi : i < 32) : (hs_pl ad S).set i (ad i, .inr (0, hs_fl g)) = hs_pl ad (fun j => if j = i then g else S j) := by
  apply List.ext_getElem?
  intro j
  by_cases hij : i = j
  · subst hij
    rw [hs_pl_at hi, List.getElem?_set_self (by simp [hs_pl, hi])]
    simp
  · rw [List.getElem?_set_ne hij]
    by_cases hj : j < 32
    · rw [hs_pl_at hj, hs_pl_at hj]
      simp only [if_neg (Ne.symm hij)]
    · rw [List.getElem?_eq_none (by simp [hs_pl]; omega), List.getElem?_eq_none (by simp [hs_pl]; omega)]
theorem hw_at {h a : Nat} {ad : Nat → Nat} {cA : ClassId} {G : Nat → Int32} {S : Nat → Nat → Int32} {i : Nat} (hi : i < 32) : (hw_W h a ad cA G S)[i + 2]? = some (ad i, .inr (0, hs_fl (S i))) := hs_pl_at hi
theorem hw_ad {h a : Nat} {ad : Nat → Nat} {cA : ClassId} {G G' : Nat → Int32} {S S' : Nat → Nat → Int32} : (hw_W h a ad cA G' S').map Prod.fst = (hw_W h a ad cA G S).map Prod.fst := by
  simp [hw_W, hs_pl, Function.comp_def]
theorem hw_setS {D : va_G} {A : Nat → Prop} {H0 H : Heap} {locs : List Loc} {h a : Nat} {ad : Nat → Nat} {cA : ClassId} {G : Nat → Int32} {S : Nat → Nat → Int32} {i k : Nat} {v : Int32} (hi : i < 32) (hk : (hs_fl (S i)).set k (.int v) = hs_fl (upd (S i) k v))
    (T : hw_T D A H0 ((hw_W h a ad cA G S).set (i + 2) (ad i, .inr (0, (hs_fl (S i)).set k (.int v)))) H locs) : hw_T D A H0 (hw_W h a ad cA G (up2 S i k v)) H locs := by
  have e : (hw_W h a ad cA G S).set (i + 2) (ad i, .inr (0, (hs_fl (S i)).set k (.int v))) = hw_W h a ad cA G (up2 S i k v) := by
    rw [hk]
    show _ :: _ :: (hs_pl ad S).set i _ = _
    rw [hs_pl_set hi]
    rfl
  rw [e] at T
  exact T
theorem hw_setH {D : va_G} {A : Nat → Prop} {H0 H : Heap} {locs : List Loc} {h a : Nat} {ad : Nat → Nat} {cA : ClassId} {G : Nat → Int32} {S : Nat → Nat → Int32} {k : Nat} {v : Int32} (hk : (hh_fl a G).set (k + 1) (.int v) = hh_fl a (upd G k v))
    (T : hw_T D A H0 ((hw_W h a ad cA G S).set 0 (h, .inr (1, (hh_fl a G).set (k + 1) (.int v)))) H locs) : hw_T D A H0 (hw_W h a ad cA (upd G k v) S) H locs := by
  have e : (hw_W h a ad cA G S).set 0 (h, .inr (1, (hh_fl a G).set (k + 1) (.int v))) = hw_W h a ad cA (upd G k v) S := by
    rw [hk]
    rfl
  rw [e] at T
  exact T
theorem hw_isH {h a : Nat} {ad : Nat → Nat} {cA : ClassId} {G : Nat → Int32} {S : Nat → Nat → Int32} : hw_is (hw_W h a ad cA G S) h RX1 := ⟨0, 1, _, _, rfl, rfl, rfl⟩
theorem hw_isS {h a : Nat} {ad : Nat → Nat} {cA : ClassId} {G : Nat → Int32} {S : Nat → Nat → Int32} {i : Nat} (hi : i < 32) : hw_is (hw_W h a ad cA G S) (ad i) RX0 := ⟨i + 2, 0, _, _, rfl, rfl, hw_at hi⟩
/-- how many sectors there are, as a number -/
def hg_n (G : Nat → Int32) (n : Nat) : Prop := n ≤ 32 ∧ G 0 = nI n
theorem sx_lt {x : Int32} (h : vp_in x 32) : x.toNatClampNeg < 32 := by
  obtain ⟨j, hj, rfl⟩ := vp_in_of h (by decide)
  rw [nI_clamp (by omega)]
  exact hj
theorem hg_up {G : Nat → Int32} {n k : Nat} {v : Int32} (hk : 0 ≠ k) (h : hg_n G n) : hg_n (upd G k v) n := ⟨h.1, by rw [pk_un hk]; exact h.2⟩
theorem hg_0 {G : Nat → Int32} : hg_n (upd G 0 0) 0 := ⟨by decide, by rw [pk_us]; exact nI_0.symm⟩
theorem hg_lt {G : Nat → Int32} {n : Nat} (h : hg_n G n) (c : ¬ 32 ≤ G 0) : n < 32 := by
  rcases Nat.lt_or_ge n 32 with h1 | h1
  · exact h1
  · exact absurd (by rw [h.2]; exact nI_le (a := 32) h1 (by have := h.1; omega)) c
theorem hg_1 {G : Nat → Int32} {n : Nat} (h : hg_n G n) (c : ¬ 32 ≤ G 0) : hg_n (upd G 0 (G 0 + 1)) (n + 1) := ⟨hg_lt h c, by rw [pk_us, h.2, nI_1]⟩
theorem sx_in0 {G : Nat → Int32} {n : Nat} (h : hg_n G n) (c : ¬ 32 ≤ G 0) : vp_in (G 0) 32 := by
  rw [h.2]
  exact vp_in_nI (hg_lt h c) (by decide)
def sp_min (x y : Int32) : Int32 := if y < x then y else x
def sp_max (x y : Int32) : Int32 := if x < y then y else x
end
section
section
variable {l : Launch} {D : va_G} {h a : Nat} {ad : Nat → Nat} {cA : ClassId} {tz : List (ClassId × FieldType)} {G : Nat → Int32} {S : Nat → Nat → Int32} {n : Nat}
/-- go, its picture -/
def sp_go (S : Nat → Nat → Int32) (i : Nat) (d : Int32) : Nat → Nat → Int32 := up2 (up2 S i 9 d) i 10 0
set_option maxHeartbeats 4000000 in
set_option maxRecDepth 100000 in
theorem c_S_go {i : Nat} {d : Int32} (hi : i < 32) : MV l D ((cA, .object RX0) :: tz) yX0_go wsX0_go { frames := 0, cells := 0, slots := 0, locals := 0 } [.ref (ad i), .int d] (hw_W h a ad cA G S) (hw_W h a ad cA G (sp_go S i d)) := by
  refine MV.start (cc := cX0_go) (maxL := 2) (by decide) rfl (Nat.le_of_ble_eq_true rfl) (fun p e s m args below meth c A ls C T hl => ?_)
  have hx := C.1.1
  have hb := C.1.2.1
  have hml := C.1.2.2.1
  have hown : s.vm.findClass RX0 = some m.cls := C.1.2.2.2.1
  have hts := C.1.2.2.2.2
  have hK := C.2.2.2.1
  have hinS : ∀ w ∈ wsX00, w ∈ wsX0_go := by decide +kernel
  have hl : lv_has ls 2 [(0, .ref (ad i)), (1, .int d)] := hl
  refine lv_aload_n hx hb dX0_go_0 rfl (lv_at hl 0 rfl) ?_
  refine lv_iload_n hx hb dX0_go_1 rfl (lv_at hl 1 rfl) ?_
  refine va_put (D := D) (ci := 0) (v := .int d) (ty := .int) (C := RX0) (T := TX0) (N := 13) hx hb hts hinS tyX0 tyX0_ok nmX0 hown hK T.1 T.2.1 T.2.2 (i + 2) (hw_at hi) rfl 9 (by decide) (hts (.fieldLink RX0 49 "MoverHall$Sector" "way" "I") (by decide +kernel)) (fun _ h9 => h9) rfl (by decide +kernel) rfl rfl (Nat.le_of_ble_eq_true rfl) dX0_go_2 (fun H locs hP hD hS => ?_)
  have T := hw_setS (k := 9) (v := d) hi rfl ⟨hP, hD, hS⟩
  refine lv_aload_n hx hb dX0_go_5 rfl (lv_at hl 0 rfl) ?_
  refine lv_iconst (v := 0) hx hb dX0_go_6 (by decide) ?_
  refine va_put (D := D) (ci := 0) (v := .int 0) (ty := .int) (C := RX0) (T := TX0) (N := 13) hx hb hts hinS tyX0 tyX0_ok nmX0 hown hK T.1 T.2.1 T.2.2 (i + 2) (hw_at hi) rfl 10 (by decide) (hts (.fieldLink RX0 52 "MoverHall$Sector" "waitLeft" "I") (by decide +kernel)) (fun _ h9 => h9) rfl (by decide +kernel) rfl rfl (Nat.le_of_ble_eq_true rfl) dX0_go_7 (fun H locs hP hD hS => ?_)
  have T := hw_setS (k := 10) (v := 0) hi rfl ⟨hP, hD, hS⟩
  have e9 : sp_go S i d = up2 (up2 S i 9 d) i 10 0 := by rfl
  exact hw_vret C T (by rw [e9]) dX0_go_10
/-- waitFor, its picture -/
def sp_waitFor (S : Nat → Nat → Int32) (i : Nat) (d : Int32) : Nat → Nat → Int32 := up2 (up2 S i 9 0) i 10 d
set_option maxHeartbeats 4000000 in
set_option maxRecDepth 100000 in
theorem c_S_waitFor {i : Nat} {d : Int32} (hi : i < 32) : MV l D ((cA, .object RX0) :: tz) yX0_waitFor wsX0_waitFor { frames := 0, cells := 0, slots := 0, locals := 0 } [.ref (ad i), .int d] (hw_W h a ad cA G S) (hw_W h a ad cA G (sp_waitFor S i d)) := by
  refine MV.start (cc := cX0_waitFor) (maxL := 2) (by decide) rfl (Nat.le_of_ble_eq_true rfl) (fun p e s m args below meth c A ls C T hl => ?_)
  have hx := C.1.1
  have hb := C.1.2.1
  have hml := C.1.2.2.1
  have hown : s.vm.findClass RX0 = some m.cls := C.1.2.2.2.1
  have hts := C.1.2.2.2.2
  have hK := C.2.2.2.1
  have hinS : ∀ w ∈ wsX00, w ∈ wsX0_waitFor := by decide +kernel
  have hl : lv_has ls 2 [(0, .ref (ad i)), (1, .int d)] := hl
  refine lv_aload_n hx hb dX0_waitFor_0 rfl (lv_at hl 0 rfl) ?_
  refine lv_iconst (v := 0) hx hb dX0_waitFor_1 (by decide) ?_
  refine va_put (D := D) (ci := 0) (v := .int 0) (ty := .int) (C := RX0) (T := TX0) (N := 13) hx hb hts hinS tyX0 tyX0_ok nmX0 hown hK T.1 T.2.1 T.2.2 (i + 2) (hw_at hi) rfl 9 (by decide) (hts (.fieldLink RX0 49 "MoverHall$Sector" "way" "I") (by decide +kernel)) (fun _ h9 => h9) rfl (by decide +kernel) rfl rfl (Nat.le_of_ble_eq_true rfl) dX0_waitFor_2 (fun H locs hP hD hS => ?_)
  have T := hw_setS (k := 9) (v := 0) hi rfl ⟨hP, hD, hS⟩
  refine lv_aload_n hx hb dX0_waitFor_5 rfl (lv_at hl 0 rfl) ?_
  refine lv_iload_n hx hb dX0_waitFor_6 rfl (lv_at hl 1 rfl) ?_
  refine va_put (D := D) (ci := 0) (v := .int d) (ty := .int) (C := RX0) (T := TX0) (N := 13) hx hb hts hinS tyX0 tyX0_ok nmX0 hown hK T.1 T.2.1 T.2.2 (i + 2) (hw_at hi) rfl 10 (by decide) (hts (.fieldLink RX0 52 "MoverHall$Sector" "waitLeft" "I") (by decide +kernel)) (fun _ h9 => h9) rfl (by decide +kernel) rfl rfl (Nat.le_of_ble_eq_true rfl) dX0_waitFor_7 (fun H locs hP hD hS => ?_)
  have T := hw_setS (k := 10) (v := d) hi rfl ⟨hP, hD, hS⟩
  have e9 : sp_waitFor S i d = up2 (up2 S i 9 0) i 10 d := by rfl
  exact hw_vret C T (by rw [e9]) dX0_waitFor_10
/-- waitOneTick, its picture -/
def sp_waitOneTick (S : Nat → Nat → Int32) (i : Nat) : Nat → Nat → Int32 := if ((up2 S i 10 ((S i 10) - 1)) i 10) = 0 then (if ((up2 S i 10 ((S i 10) - 1)) i 8) = 0 then (up2 (up2 S i 10 ((S i 10) - 1)) i 9 (-1)) else (up2 (up2 S i 10 ((S i 10) - 1)) i 9 1)) else (up2 S i 10 ((S i 10) - 1))
set_option maxHeartbeats 4000000 in
set_option maxRecDepth 100000 in
theorem c_S_waitOneTick {i : Nat} (hi : i < 32) : MV l D ((cA, .object RX0) :: tz) yX0_waitOneTick wsX0_waitOneTick { frames := 0, cells := 0, slots := 0, locals := 0 } [.ref (ad i)] (hw_W h a ad cA G S) (hw_W h a ad cA G (sp_waitOneTick S i)) := by
  refine MV.start (cc := cX0_waitOneTick) (maxL := 1) (by decide) rfl (Nat.le_of_ble_eq_true rfl) (fun p e s m args below meth c A ls C T hl => ?_)
  have hx := C.1.1
  have hb := C.1.2.1
  have hml := C.1.2.2.1
  have hown : s.vm.findClass RX0 = some m.cls := C.1.2.2.2.1
  have hts := C.1.2.2.2.2
  have hK := C.2.2.2.1
  have hinS : ∀ w ∈ wsX00, w ∈ wsX0_waitOneTick := by decide +kernel
  have hl : lv_has ls 1 [(0, .ref (ad i))] := hl
  refine lv_aload_n hx hb dX0_waitOneTick_0 rfl (lv_at hl 0 rfl) ?_
  refine lv_dup hx hb dX0_waitOneTick_1 rfl ?_
  refine va_get (D := D) (ci := 0) (v := .int (S i 10)) (C := RX0) (T := TX0) (N := 13) hx hb hts hinS hown hK T.1 (i + 2) (hw_at hi) rfl 10 (by decide) (hts (.fieldLink RX0 52 "MoverHall$Sector" "waitLeft" "I") (by decide +kernel)) (fun _ h9 => h9) rfl dX0_waitOneTick_2 ?_
  refine lv_iconst (v := 1) hx hb dX0_waitOneTick_5 (by decide) ?_
  refine lv_isub hx hb dX0_waitOneTick_6 ?_
  refine va_put (D := D) (ci := 0) (v := .int ((S i 10) - 1)) (ty := .int) (C := RX0) (T := TX0) (N := 13) hx hb hts hinS tyX0 tyX0_ok nmX0 hown hK T.1 T.2.1 T.2.2 (i + 2) (hw_at hi) rfl 10 (by decide) (hts (.fieldLink RX0 52 "MoverHall$Sector" "waitLeft" "I") (by decide +kernel)) (fun _ h9 => h9) rfl (by decide +kernel) rfl rfl (Nat.le_of_ble_eq_true rfl) dX0_waitOneTick_7 (fun H locs hP hD hS => ?_)
  have T := hw_setS (k := 10) (v := (S i 10) - 1) hi rfl ⟨hP, hD, hS⟩
  refine lv_aload_n hx hb dX0_waitOneTick_10 rfl (lv_at hl 0 rfl) ?_
  refine va_get (D := D) (ci := 0) (v := .int ((up2 S i 10 ((S i 10) - 1)) i 10)) (C := RX0) (T := TX0) (N := 13) hx hb hts hinS hown hK T.1 (i + 2) (hw_at hi) rfl 10 (by decide) (hts (.fieldLink RX0 52 "MoverHall$Sector" "waitLeft" "I") (by decide +kernel)) (fun _ h9 => h9) rfl dX0_waitOneTick_11 ?_
  refine lv_if_ne (tgt := 33) hx hb dX0_waitOneTick_14 (by decide) (fun c_14 => ?_) (fun c_14 => ?_)
  · skip
    have e9 : sp_waitOneTick S i = up2 S i 10 ((S i 10) - 1) := by unfold sp_waitOneTick; simp only [if_neg c_14]
    exact hw_vret C T (by rw [e9]) dX0_waitOneTick_33
  · skip
    refine lv_aload_n hx hb dX0_waitOneTick_17 rfl (lv_at hl 0 rfl) ?_
    refine lv_aload_n hx hb dX0_waitOneTick_18 rfl (lv_at hl 0 rfl) ?_
    refine va_get (D := D) (ci := 0) (v := .int ((up2 S i 10 ((S i 10) - 1)) i 8)) (C := RX0) (T := TX0) (N := 13) hx hb hts hinS hown hK T.1 (i + 2) (hw_at hi) rfl 8 (by decide) (hts (.fieldLink RX0 39 "MoverHall$Sector" "mover" "I") (by decide +kernel)) (fun _ h9 => h9) rfl dX0_waitOneTick_19 ?_
    refine lv_if_ne (tgt := 29) hx hb dX0_waitOneTick_22 (by decide) (fun c_22 => ?_) (fun c_22 => ?_)
    · skip
      refine lv_iconst (v := 1) hx hb dX0_waitOneTick_29 (by decide) ?_
      refine va_put (D := D) (ci := 0) (v := .int 1) (ty := .int) (C := RX0) (T := TX0) (N := 13) hx hb hts hinS tyX0 tyX0_ok nmX0 hown hK T.1 T.2.1 T.2.2 (i + 2) (hw_at hi) rfl 9 (by decide) (hts (.fieldLink RX0 49 "MoverHall$Sector" "way" "I") (by decide +kernel)) (fun _ h9 => h9) rfl (by decide +kernel) rfl rfl (Nat.le_of_ble_eq_true rfl) dX0_waitOneTick_30 (fun H locs hP hD hS => ?_)
      have T := hw_setS (k := 9) (v := 1) hi rfl ⟨hP, hD, hS⟩
      have e9 : sp_waitOneTick S i = up2 (up2 S i 10 ((S i 10) - 1)) i 9 1 := by unfold sp_waitOneTick; simp only [if_pos c_14, if_neg c_22]
      exact hw_vret C T (by rw [e9]) dX0_waitOneTick_33
    · skip
      refine lv_iconst (v := (-1)) hx hb dX0_waitOneTick_25 (by decide) ?_
      refine lv_goto (tgt := 30) hx hb dX0_waitOneTick_26 (by decide) ?_
      refine va_put (D := D) (ci := 0) (v := .int (-1)) (ty := .int) (C := RX0) (T := TX0) (N := 13) hx hb hts hinS tyX0 tyX0_ok nmX0 hown hK T.1 T.2.1 T.2.2 (i + 2) (hw_at hi) rfl 9 (by decide) (hts (.fieldLink RX0 49 "MoverHall$Sector" "way" "I") (by decide +kernel)) (fun _ h9 => h9) rfl (by decide +kernel) rfl rfl (Nat.le_of_ble_eq_true rfl) dX0_waitOneTick_30 (fun H locs hP hD hS => ?_)
      have T := hw_setS (k := 9) (v := (-1)) hi rfl ⟨hP, hD, hS⟩
      have e9 : sp_waitOneTick S i = up2 (up2 S i 10 ((S i 10) - 1)) i 9 (-1) := by unfold sp_waitOneTick; simp only [if_pos c_14, if_pos c_22]
      exact hw_vret C T (by rw [e9]) dX0_waitOneTick_33
/-- dropMover, its picture -/
def sp_dropMover (S : Nat → Nat → Int32) (i : Nat) : Nat → Nat → Int32 := sp_go (up2 (up2 S i 8 (-1)) i 11 (-1)) i 0
set_option maxHeartbeats 4000000 in
set_option maxRecDepth 100000 in
theorem c_S_dropMover {i : Nat} (hi : i < 32) : MV l D ((cA, .object RX0) :: tz) yX0_dropMover wsX0_dropMover { frames := 1, cells := 0, slots := 0, locals := 21 } [.ref (ad i)] (hw_W h a ad cA G S) (hw_W h a ad cA G (sp_dropMover S i)) := by
  refine MV.start (cc := cX0_dropMover) (maxL := 1) (by decide) rfl (Nat.le_of_ble_eq_true rfl) (fun p e s m args below meth c A ls C T hl => ?_)
  have hx := C.1.1
  have hb := C.1.2.1
  have hml := C.1.2.2.1
  have hown : s.vm.findClass RX0 = some m.cls := C.1.2.2.2.1
  have hts := C.1.2.2.2.2
  have hK := C.2.2.2.1
  have hinS : ∀ w ∈ wsX00, w ∈ wsX0_dropMover := by decide +kernel
  have hl : lv_has ls 1 [(0, .ref (ad i))] := hl
  refine lv_aload_n hx hb dX0_dropMover_0 rfl (lv_at hl 0 rfl) ?_
  refine lv_iconst (v := (-1)) hx hb dX0_dropMover_1 (by decide) ?_
  refine va_put (D := D) (ci := 0) (v := .int (-1)) (ty := .int) (C := RX0) (T := TX0) (N := 13) hx hb hts hinS tyX0 tyX0_ok nmX0 hown hK T.1 T.2.1 T.2.2 (i + 2) (hw_at hi) rfl 8 (by decide) (hts (.fieldLink RX0 39 "MoverHall$Sector" "mover" "I") (by decide +kernel)) (fun _ h9 => h9) rfl (by decide +kernel) rfl rfl (Nat.le_of_ble_eq_true rfl) dX0_dropMover_2 (fun H locs hP hD hS => ?_)
  have T := hw_setS (k := 8) (v := (-1)) hi rfl ⟨hP, hD, hS⟩
  refine lv_aload_n hx hb dX0_dropMover_5 rfl (lv_at hl 0 rfl) ?_
  refine lv_iconst (v := (-1)) hx hb dX0_dropMover_6 (by decide) ?_
  refine va_put (D := D) (ci := 0) (v := .int (-1)) (ty := .int) (C := RX0) (T := TX0) (N := 13) hx hb hts hinS tyX0 tyX0_ok nmX0 hown hK T.1 T.2.1 T.2.2 (i + 2) (hw_at hi) rfl 11 (by decide) (hts (.fieldLink RX0 42 "MoverHall$Sector" "wayEnd" "I") (by decide +kernel)) (fun _ h9 => h9) rfl (by decide +kernel) rfl rfl (Nat.le_of_ble_eq_true rfl) dX0_dropMover_7 (fun H locs hP hD hS => ?_)
  have T := hw_setS (k := 11) (v := (-1)) hi rfl ⟨hP, hD, hS⟩
  refine lv_aload_n hx hb dX0_dropMover_10 rfl (lv_at hl 0 rfl) ?_
  refine lv_iconst (v := 0) hx hb dX0_dropMover_11 (by decide) ?_
  refine hw_Vv (As := [.int 0]) (rest := []) C T (c_S_go hi) (cwV 1 hts gX0_dropMover_X0_go rfl rfl rfl (by decide +kernel) ⟨Nat.le_of_ble_eq_true rfl, Nat.le_of_ble_eq_true rfl⟩) (hw_isS hi) hw_ad rfl hl.1 rfl (Nat.le_of_ble_eq_true rfl) dX0_dropMover_12 ⟨Nat.zero_le _, Nat.zero_le _⟩ (fun H locs T => ?_)
  have e9 : sp_dropMover S i = sp_go (up2 (up2 S i 8 (-1)) i 11 (-1)) i 0 := by rfl
  exact hw_vret C T (by rw [e9]) dX0_dropMover_15
/-- goBackToPlan, its picture -/
def sp_goBackToPlan (S : Nat → Nat → Int32) (i : Nat) : Nat → Nat → Int32 := sp_dropMover (up2 (up2 S i 6 (S i 0)) i 7 ((up2 S i 6 (S i 0)) i 1)) i
set_option maxHeartbeats 4000000 in
set_option maxRecDepth 100000 in
theorem c_S_goBackToPlan {i : Nat} (hi : i < 32) : MV l D ((cA, .object RX0) :: tz) yX0_goBackToPlan wsX0_goBackToPlan { frames := 2, cells := 0, slots := 0, locals := 41 } [.ref (ad i)] (hw_W h a ad cA G S) (hw_W h a ad cA G (sp_goBackToPlan S i)) := by
  refine MV.start (cc := cX0_goBackToPlan) (maxL := 1) (by decide) rfl (Nat.le_of_ble_eq_true rfl) (fun p e s m args below meth c A ls C T hl => ?_)
  have hx := C.1.1
  have hb := C.1.2.1
  have hml := C.1.2.2.1
  have hown : s.vm.findClass RX0 = some m.cls := C.1.2.2.2.1
  have hts := C.1.2.2.2.2
  have hK := C.2.2.2.1
  have hinS : ∀ w ∈ wsX00, w ∈ wsX0_goBackToPlan := by decide +kernel
  have hl : lv_has ls 1 [(0, .ref (ad i))] := hl
  refine lv_aload_n hx hb dX0_goBackToPlan_0 rfl (lv_at hl 0 rfl) ?_
  refine lv_aload_n hx hb dX0_goBackToPlan_1 rfl (lv_at hl 0 rfl) ?_
  refine va_get (D := D) (ci := 0) (v := .int (S i 0)) (C := RX0) (T := TX0) (N := 13) hx hb hts hinS hown hK T.1 (i + 2) (hw_at hi) rfl 0 (by decide) (hts (.fieldLink RX0 9 "MoverHall$Sector" "plannedFloor" "I") (by decide +kernel)) (fun _ h9 => h9) rfl dX0_goBackToPlan_2 ?_
  refine va_put (D := D) (ci := 0) (v := .int (S i 0)) (ty := .int) (C := RX0) (T := TX0) (N := 13) hx hb hts hinS tyX0 tyX0_ok nmX0 hown hK T.1 T.2.1 T.2.2 (i + 2) (hw_at hi) rfl 6 (by decide) (hts (.fieldLink RX0 30 "MoverHall$Sector" "floor" "I") (by decide +kernel)) (fun _ h9 => h9) rfl (by decide +kernel) rfl rfl (Nat.le_of_ble_eq_true rfl) dX0_goBackToPlan_5 (fun H locs hP hD hS => ?_)
  have T := hw_setS (k := 6) (v := S i 0) hi rfl ⟨hP, hD, hS⟩
  refine lv_aload_n hx hb dX0_goBackToPlan_8 rfl (lv_at hl 0 rfl) ?_
  refine lv_aload_n hx hb dX0_goBackToPlan_9 rfl (lv_at hl 0 rfl) ?_
  refine va_get (D := D) (ci := 0) (v := .int ((up2 S i 6 (S i 0)) i 1)) (C := RX0) (T := TX0) (N := 13) hx hb hts hinS hown hK T.1 (i + 2) (hw_at hi) rfl 1 (by decide) (hts (.fieldLink RX0 15 "MoverHall$Sector" "plannedCeiling" "I") (by decide +kernel)) (fun _ h9 => h9) rfl dX0_goBackToPlan_10 ?_
  refine va_put (D := D) (ci := 0) (v := .int ((up2 S i 6 (S i 0)) i 1)) (ty := .int) (C := RX0) (T := TX0) (N := 13) hx hb hts hinS tyX0 tyX0_ok nmX0 hown hK T.1 T.2.1 T.2.2 (i + 2) (hw_at hi) rfl 7 (by decide) (hts (.fieldLink RX0 33 "MoverHall$Sector" "ceiling" "I") (by decide +kernel)) (fun _ h9 => h9) rfl (by decide +kernel) rfl rfl (Nat.le_of_ble_eq_true rfl) dX0_goBackToPlan_13 (fun H locs hP hD hS => ?_)
  have T := hw_setS (k := 7) (v := (up2 S i 6 (S i 0)) i 1) hi rfl ⟨hP, hD, hS⟩
  refine lv_aload_n hx hb dX0_goBackToPlan_16 rfl (lv_at hl 0 rfl) ?_
  refine hw_Vv (As := []) (rest := []) C T (c_S_dropMover hi) (cwV 0 hts gX0_goBackToPlan_X0_dropMover rfl rfl rfl (by decide +kernel) ⟨Nat.le_of_ble_eq_true rfl, Nat.le_of_ble_eq_true rfl⟩) (hw_isS hi) hw_ad rfl hl.1 rfl (Nat.le_of_ble_eq_true rfl) dX0_goBackToPlan_17 ⟨Nat.zero_le _, Nat.zero_le _⟩ (fun H locs T => ?_)
  have e9 : sp_goBackToPlan S i = sp_dropMover (up2 (up2 S i 6 (S i 0)) i 7 ((up2 S i 6 (S i 0)) i 1)) i := by rfl
  exact hw_vret C T (by rw [e9]) dX0_goBackToPlan_20
/-- plan, its picture -/
def sp_plan (S : Nat → Nat → Int32) (i : Nat) (x1 : Int32) (x2 : Int32) (x3 : Int32) (x4 : Int32) (x5 : Int32) : Nat → Nat → Int32 := up2 (up2 (up2 (up2 (up2 (up2 S i 0 x1) i 1 x2) i 2 x3) i 3 x4) i 4 x5) i 5 0
set_option maxHeartbeats 4000000 in
set_option maxRecDepth 100000 in
theorem c_S_plan {i : Nat} {x1 : Int32} {x2 : Int32} {x3 : Int32} {x4 : Int32} {x5 : Int32} (hi : i < 32) : MV l D ((cA, .object RX0) :: tz) yX0_plan wsX0_plan { frames := 0, cells := 0, slots := 0, locals := 0 } [.ref (ad i), .int x1, .int x2, .int x3, .int x4, .int x5] (hw_W h a ad cA G S) (hw_W h a ad cA G (sp_plan S i x1 x2 x3 x4 x5)) := by
  refine MV.start (cc := cX0_plan) (maxL := 6) (by decide) rfl (Nat.le_of_ble_eq_true rfl) (fun p e s m args below meth c A ls C T hl => ?_)
  have hx := C.1.1
  have hb := C.1.2.1
  have hml := C.1.2.2.1
  have hown : s.vm.findClass RX0 = some m.cls := C.1.2.2.2.1
  have hts := C.1.2.2.2.2
  have hK := C.2.2.2.1
  have hinS : ∀ w ∈ wsX00, w ∈ wsX0_plan := by decide +kernel
  have hl : lv_has ls 6 [(0, .ref (ad i)), (1, .int x1), (2, .int x2), (3, .int x3), (4, .int x4), (5, .int x5)] := hl
  refine lv_aload_n hx hb dX0_plan_0 rfl (lv_at hl 0 rfl) ?_
  refine lv_iload_n hx hb dX0_plan_1 rfl (lv_at hl 1 rfl) ?_
  refine va_put (D := D) (ci := 0) (v := .int x1) (ty := .int) (C := RX0) (T := TX0) (N := 13) hx hb hts hinS tyX0 tyX0_ok nmX0 hown hK T.1 T.2.1 T.2.2 (i + 2) (hw_at hi) rfl 0 (by decide) (hts (.fieldLink RX0 9 "MoverHall$Sector" "plannedFloor" "I") (by decide +kernel)) (fun _ h9 => h9) rfl (by decide +kernel) rfl rfl (Nat.le_of_ble_eq_true rfl) dX0_plan_2 (fun H locs hP hD hS => ?_)
  have T := hw_setS (k := 0) (v := x1) hi rfl ⟨hP, hD, hS⟩
  refine lv_aload_n hx hb dX0_plan_5 rfl (lv_at hl 0 rfl) ?_
  refine lv_iload_n hx hb dX0_plan_6 rfl (lv_at hl 2 rfl) ?_
  refine va_put (D := D) (ci := 0) (v := .int x2) (ty := .int) (C := RX0) (T := TX0) (N := 13) hx hb hts hinS tyX0 tyX0_ok nmX0 hown hK T.1 T.2.1 T.2.2 (i + 2) (hw_at hi) rfl 1 (by decide) (hts (.fieldLink RX0 15 "MoverHall$Sector" "plannedCeiling" "I") (by decide +kernel)) (fun _ h9 => h9) rfl (by decide +kernel) rfl rfl (Nat.le_of_ble_eq_true rfl) dX0_plan_7 (fun H locs hP hD hS => ?_)
  have T := hw_setS (k := 1) (v := x2) hi rfl ⟨hP, hD, hS⟩
  refine lv_aload_n hx hb dX0_plan_10 rfl (lv_at hl 0 rfl) ?_
  refine lv_iload_n hx hb dX0_plan_11 rfl (lv_at hl 3 rfl) ?_
  refine va_put (D := D) (ci := 0) (v := .int x3) (ty := .int) (C := RX0) (T := TX0) (N := 13) hx hb hts hinS tyX0 tyX0_ok nmX0 hown hK T.1 T.2.1 T.2.2 (i + 2) (hw_at hi) rfl 2 (by decide) (hts (.fieldLink RX0 18 "MoverHall$Sector" "light" "I") (by decide +kernel)) (fun _ h9 => h9) rfl (by decide +kernel) rfl rfl (Nat.le_of_ble_eq_true rfl) dX0_plan_12 (fun H locs hP hD hS => ?_)
  have T := hw_setS (k := 2) (v := x3) hi rfl ⟨hP, hD, hS⟩
  refine lv_aload_n hx hb dX0_plan_15 rfl (lv_at hl 0 rfl) ?_
  refine lv_iload hx hb dX0_plan_16 (lv_at hl 4 rfl) ?_
  refine va_put (D := D) (ci := 0) (v := .int x4) (ty := .int) (C := RX0) (T := TX0) (N := 13) hx hb hts hinS tyX0 tyX0_ok nmX0 hown hK T.1 T.2.1 T.2.2 (i + 2) (hw_at hi) rfl 3 (by decide) (hts (.fieldLink RX0 21 "MoverHall$Sector" "kind" "I") (by decide +kernel)) (fun _ h9 => h9) rfl (by decide +kernel) rfl rfl (Nat.le_of_ble_eq_true rfl) dX0_plan_18 (fun H locs hP hD hS => ?_)
  have T := hw_setS (k := 3) (v := x4) hi rfl ⟨hP, hD, hS⟩
  refine lv_aload_n hx hb dX0_plan_21 rfl (lv_at hl 0 rfl) ?_
  refine lv_iload hx hb dX0_plan_22 (lv_at hl 5 rfl) ?_
  refine va_put (D := D) (ci := 0) (v := .int x5) (ty := .int) (C := RX0) (T := TX0) (N := 13) hx hb hts hinS tyX0 tyX0_ok nmX0 hown hK T.1 T.2.1 T.2.2 (i + 2) (hw_at hi) rfl 4 (by decide) (hts (.fieldLink RX0 24 "MoverHall$Sector" "tag" "I") (by decide +kernel)) (fun _ h9 => h9) rfl (by decide +kernel) rfl rfl (Nat.le_of_ble_eq_true rfl) dX0_plan_24 (fun H locs hP hD hS => ?_)
  have T := hw_setS (k := 4) (v := x5) hi rfl ⟨hP, hD, hS⟩
  refine lv_aload_n hx hb dX0_plan_27 rfl (lv_at hl 0 rfl) ?_
  refine lv_iconst (v := 0) hx hb dX0_plan_28 (by decide) ?_
  refine va_put (D := D) (ci := 0) (v := .int 0) (ty := .int) (C := RX0) (T := TX0) (N := 13) hx hb hts hinS tyX0 tyX0_ok nmX0 hown hK T.1 T.2.1 T.2.2 (i + 2) (hw_at hi) rfl 5 (by decide) (hts (.fieldLink RX0 27 "MoverHall$Sector" "neighbours" "I") (by decide +kernel)) (fun _ h9 => h9) rfl (by decide +kernel) rfl rfl (Nat.le_of_ble_eq_true rfl) dX0_plan_29 (fun H locs hP hD hS => ?_)
  have T := hw_setS (k := 5) (v := 0) hi rfl ⟨hP, hD, hS⟩
  have e9 : sp_plan S i x1 x2 x3 x4 x5 = up2 (up2 (up2 (up2 (up2 (up2 S i 0 x1) i 1 x2) i 2 x3) i 3 x4) i 4 x5) i 5 0 := by rfl
  exact hw_vret C T (by rw [e9]) dX0_plan_32
/-- hasNeighbour, its picture -/
def sp_hasNeighbour (S : Nat → Nat → Int32) (i : Nat) (x1 : Int32) : Int32 := if ((((S i 5).toUInt32 >>> (x1.toUInt32 &&& Int32.toUInt32 31)).toInt32) &&& 1) = 0 then 0 else 1
set_option maxHeartbeats 4000000 in
set_option maxRecDepth 100000 in
theorem c_S_hasNeighbour {i : Nat} {x1 : Int32} (hi : i < 32) : MI l D ((cA, .object RX0) :: tz) yX0_hasNeighbour wsX0_hasNeighbour { frames := 0, cells := 0, slots := 0, locals := 0 } [.ref (ad i), .int x1] (hw_W h a ad cA G S) (sp_hasNeighbour S i x1) (hw_W h a ad cA G S) := by
  refine MI.start (cc := cX0_hasNeighbour) (maxL := 2) (by decide) rfl (Nat.le_of_ble_eq_true rfl) (fun p e s m args below meth c A ls C T hl => ?_)
  have hx := C.1.1
  have hb := C.1.2.1
  have hml := C.1.2.2.1
  have hown : s.vm.findClass RX0 = some m.cls := C.1.2.2.2.1
  have hts := C.1.2.2.2.2
  have hK := C.2.2.2.1
  have hinS : ∀ w ∈ wsX00, w ∈ wsX0_hasNeighbour := by decide +kernel
  have hl : lv_has ls 2 [(0, .ref (ad i)), (1, .int x1)] := hl
  refine lv_aload_n hx hb dX0_hasNeighbour_0 rfl (lv_at hl 0 rfl) ?_
  refine va_get (D := D) (ci := 0) (v := .int (S i 5)) (C := RX0) (T := TX0) (N := 13) hx hb hts hinS hown hK T.1 (i + 2) (hw_at hi) rfl 5 (by decide) (hts (.fieldLink RX0 27 "MoverHall$Sector" "neighbours" "I") (by decide +kernel)) (fun _ h9 => h9) rfl dX0_hasNeighbour_1 ?_
  refine lv_iload_n hx hb dX0_hasNeighbour_4 rfl (lv_at hl 1 rfl) ?_
  refine lv_iushr hx hb dX0_hasNeighbour_5 rfl ?_
  refine lv_iconst (v := 1) hx hb dX0_hasNeighbour_6 (by decide) ?_
  refine lv_iand hx hb dX0_hasNeighbour_7 ?_
  refine lv_if_eq (tgt := 15) hx hb dX0_hasNeighbour_8 (by decide) (fun c_8 => ?_) (fun c_8 => ?_)
  · skip
    refine lv_iconst (v := 0) hx hb dX0_hasNeighbour_15 (by decide) ?_
    have e9 : sp_hasNeighbour S i x1 = 0 := by unfold sp_hasNeighbour; simp only [if_pos c_8]
    exact hw_iret C T (by decide) e9.symm rfl dX0_hasNeighbour_16
  · skip
    refine lv_iconst (v := 1) hx hb dX0_hasNeighbour_11 (by decide) ?_
    refine lv_goto (tgt := 16) hx hb dX0_hasNeighbour_12 (by decide) ?_
    have e9 : sp_hasNeighbour S i x1 = 1 := by unfold sp_hasNeighbour; simp only [if_neg c_8]
    exact hw_iret C T (by decide) e9.symm rfl dX0_hasNeighbour_16
/-- hasNeighbours, its picture -/
def sp_hasNeighbours (S : Nat → Nat → Int32) (i : Nat) : Int32 := if (S i 5) = 0 then 0 else 1
set_option maxHeartbeats 4000000 in
set_option maxRecDepth 100000 in
theorem c_S_hasNeighbours {i : Nat} (hi : i < 32) : MI l D ((cA, .object RX0) :: tz) yX0_hasNeighbours wsX0_hasNeighbours { frames := 0, cells := 0, slots := 0, locals := 0 } [.ref (ad i)] (hw_W h a ad cA G S) (sp_hasNeighbours S i) (hw_W h a ad cA G S) := by
  refine MI.start (cc := cX0_hasNeighbours) (maxL := 1) (by decide) rfl (Nat.le_of_ble_eq_true rfl) (fun p e s m args below meth c A ls C T hl => ?_)
  have hx := C.1.1
  have hb := C.1.2.1
  have hml := C.1.2.2.1
  have hown : s.vm.findClass RX0 = some m.cls := C.1.2.2.2.1
  have hts := C.1.2.2.2.2
  have hK := C.2.2.2.1
  have hinS : ∀ w ∈ wsX00, w ∈ wsX0_hasNeighbours := by decide +kernel
  have hl : lv_has ls 1 [(0, .ref (ad i))] := hl
  refine lv_aload_n hx hb dX0_hasNeighbours_0 rfl (lv_at hl 0 rfl) ?_
  refine va_get (D := D) (ci := 0) (v := .int (S i 5)) (C := RX0) (T := TX0) (N := 13) hx hb hts hinS hown hK T.1 (i + 2) (hw_at hi) rfl 5 (by decide) (hts (.fieldLink RX0 27 "MoverHall$Sector" "neighbours" "I") (by decide +kernel)) (fun _ h9 => h9) rfl dX0_hasNeighbours_1 ?_
  refine lv_if_eq (tgt := 11) hx hb dX0_hasNeighbours_4 (by decide) (fun c_4 => ?_) (fun c_4 => ?_)
  · skip
    refine lv_iconst (v := 0) hx hb dX0_hasNeighbours_11 (by decide) ?_
    have e9 : sp_hasNeighbours S i = 0 := by unfold sp_hasNeighbours; simp only [if_pos c_4]
    exact hw_iret C T (by decide) e9.symm rfl dX0_hasNeighbours_12
  · skip
    refine lv_iconst (v := 1) hx hb dX0_hasNeighbours_7 (by decide) ?_
    refine lv_goto (tgt := 12) hx hb dX0_hasNeighbours_8 (by decide) ?_
    have e9 : sp_hasNeighbours S i = 1 := by unfold sp_hasNeighbours; simp only [if_neg c_4]
    exact hw_iret C T (by decide) e9.symm rfl dX0_hasNeighbours_12
/-- addNeighbour, its picture -/
def sp_addNeighbour (S : Nat → Nat → Int32) (i : Nat) (x1 : Int32) : Nat → Nat → Int32 := up2 S i 5 ((S i 5) ||| (1 <<< (x1 &&& 31)))
set_option maxHeartbeats 4000000 in
set_option maxRecDepth 100000 in
theorem c_S_addNeighbour {i : Nat} {x1 : Int32} (hi : i < 32) : MV l D ((cA, .object RX0) :: tz) yX0_addNeighbour wsX0_addNeighbour { frames := 0, cells := 0, slots := 0, locals := 0 } [.ref (ad i), .int x1] (hw_W h a ad cA G S) (hw_W h a ad cA G (sp_addNeighbour S i x1)) := by
  refine MV.start (cc := cX0_addNeighbour) (maxL := 2) (by decide) rfl (Nat.le_of_ble_eq_true rfl) (fun p e s m args below meth c A ls C T hl => ?_)
  have hx := C.1.1
  have hb := C.1.2.1
  have hml := C.1.2.2.1
  have hown : s.vm.findClass RX0 = some m.cls := C.1.2.2.2.1
  have hts := C.1.2.2.2.2
  have hK := C.2.2.2.1
  have hinS : ∀ w ∈ wsX00, w ∈ wsX0_addNeighbour := by decide +kernel
  have hl : lv_has ls 2 [(0, .ref (ad i)), (1, .int x1)] := hl
  refine lv_aload_n hx hb dX0_addNeighbour_0 rfl (lv_at hl 0 rfl) ?_
  refine lv_dup hx hb dX0_addNeighbour_1 rfl ?_
  refine va_get (D := D) (ci := 0) (v := .int (S i 5)) (C := RX0) (T := TX0) (N := 13) hx hb hts hinS hown hK T.1 (i + 2) (hw_at hi) rfl 5 (by decide) (hts (.fieldLink RX0 27 "MoverHall$Sector" "neighbours" "I") (by decide +kernel)) (fun _ h9 => h9) rfl dX0_addNeighbour_2 ?_
  refine lv_iconst (v := 1) hx hb dX0_addNeighbour_5 (by decide) ?_
  refine lv_iload_n hx hb dX0_addNeighbour_6 rfl (lv_at hl 1 rfl) ?_
  refine lv_ishl hx hb dX0_addNeighbour_7 ?_
  refine lv_ior hx hb dX0_addNeighbour_8 ?_
  refine va_put (D := D) (ci := 0) (v := .int ((S i 5) ||| (1 <<< (x1 &&& 31)))) (ty := .int) (C := RX0) (T := TX0) (N := 13) hx hb hts hinS tyX0 tyX0_ok nmX0 hown hK T.1 T.2.1 T.2.2 (i + 2) (hw_at hi) rfl 5 (by decide) (hts (.fieldLink RX0 27 "MoverHall$Sector" "neighbours" "I") (by decide +kernel)) (fun _ h9 => h9) rfl (by decide +kernel) rfl rfl (Nat.le_of_ble_eq_true rfl) dX0_addNeighbour_9 (fun H locs hP hD hS => ?_)
  have T := hw_setS (k := 5) (v := (S i 5) ||| (1 <<< (x1 &&& 31))) hi rfl ⟨hP, hD, hS⟩
  have e9 : sp_addNeighbour S i x1 = up2 S i 5 ((S i 5) ||| (1 <<< (x1 &&& 31))) := by rfl
  exact hw_vret C T (by rw [e9]) dX0_addNeighbour_12
end
end
section
section
variable {l : Launch} {D : va_G} {h a : Nat} {ad : Nat → Nat} {cA : ClassId} {tz : List (ClassId × FieldType)} {G : Nat → Int32} {S : Nat → Nat → Int32} {n : Nat}
/-- isWithin, its picture -/
def sp_isWithin (x0 : Int32) (x1 : Int32) (x2 : Int32) : Int32 := if x0 < x1 then 0 else (if x2 < x0 then 0 else 1)
theorem sp_isWithin_z (x0 x1 x2 : Int32) : narrow .boolean (.int (sp_isWithin x0 x1 x2)) = .int (sp_isWithin x0 x1 x2) := by
  unfold sp_isWithin
  split
  · rfl
  · split <;> rfl
theorem sx_ticks {x : Int32} (c : ¬ sp_isWithin x 0 1000 = 0) : ∃ N : Nat, N ≤ 1000 ∧ x = nI N := by
  unfold sp_isWithin at c
  by_cases h0 : x < 0
  · simp [h0] at c
  · by_cases h1 : 1000 < x
    · simp [h1] at c
    · exact nI_of2 (M := 1000) (by decide) h0 (Int32.not_lt.mp h1)
set_option maxHeartbeats 4000000 in
set_option maxRecDepth 100000 in
theorem c_H_isWithin {x0 : Int32} {x1 : Int32} {x2 : Int32}  : MI l D ((cA, .object RX0) :: tz) yX1_isWithin wsX1_isWithin { frames := 0, cells := 0, slots := 0, locals := 0 } [.int x0, .int x1, .int x2] (hw_W h a ad cA G S) (sp_isWithin x0 x1 x2) (hw_W h a ad cA G S) := by
  refine MI.start (cc := cX1_isWithin) (maxL := 3) (by decide) rfl (Nat.le_of_ble_eq_true rfl) (fun p e s m args below meth c A ls C T hl => ?_)
  have hx := C.1.1
  have hb := C.1.2.1
  have hml := C.1.2.2.1
  have hown : s.vm.findClass RX1 = some m.cls := C.1.2.2.2.1
  have hts := C.1.2.2.2.2
  have hK := C.2.2.2.1
  have hl : lv_has ls 3 [(0, .int x0), (1, .int x1), (2, .int x2)] := hl
  refine lv_iload_n hx hb dX1_isWithin_0 rfl (lv_at hl 0 rfl) ?_
  refine lv_iload_n hx hb dX1_isWithin_1 rfl (lv_at hl 1 rfl) ?_
  refine lv_icmp_lt (tgt := 14) hx hb dX1_isWithin_2 (by decide) (fun c_2 => ?_) (fun c_2 => ?_)
  · skip
    refine lv_iconst (v := 0) hx hb dX1_isWithin_14 (by decide) ?_
    have e9 : sp_isWithin x0 x1 x2 = 0 := by unfold sp_isWithin; simp only [if_pos c_2]
    exact hw_iret C T (by decide) e9.symm rfl dX1_isWithin_15
  · skip
    refine lv_iload_n hx hb dX1_isWithin_5 rfl (lv_at hl 0 rfl) ?_
    refine lv_iload_n hx hb dX1_isWithin_6 rfl (lv_at hl 2 rfl) ?_
    refine lv_icmp_gt (tgt := 14) hx hb dX1_isWithin_7 (by decide) (fun c_7 => ?_) (fun c_7 => ?_)
    · skip
      refine lv_iconst (v := 0) hx hb dX1_isWithin_14 (by decide) ?_
      have e9 : sp_isWithin x0 x1 x2 = 0 := by unfold sp_isWithin; simp only [if_neg c_2, if_pos c_7]
      exact hw_iret C T (by decide) e9.symm rfl dX1_isWithin_15
    · skip
      refine lv_iconst (v := 1) hx hb dX1_isWithin_10 (by decide) ?_
      refine lv_goto (tgt := 15) hx hb dX1_isWithin_11 (by decide) ?_
      have e9 : sp_isWithin x0 x1 x2 = 1 := by unfold sp_isWithin; simp only [if_neg c_2, if_neg c_7]
      exact hw_iret C T (by decide) e9.symm rfl dX1_isWithin_15
/-- isShape, its picture -/
def sp_isShape (x0 : Int32) (x1 : Int32) : Int32 := if x0 < (-1024) then 0 else (if x1 ≤ x0 then 0 else (if 1024 < x1 then 0 else 1))
set_option maxHeartbeats 4000000 in
set_option maxRecDepth 100000 in
theorem c_H_isShape {x0 : Int32} {x1 : Int32}  : MI l D ((cA, .object RX0) :: tz) yX1_isShape wsX1_isShape { frames := 0, cells := 0, slots := 0, locals := 0 } [.int x0, .int x1] (hw_W h a ad cA G S) (sp_isShape x0 x1) (hw_W h a ad cA G S) := by
  refine MI.start (cc := cX1_isShape) (maxL := 2) (by decide) rfl (Nat.le_of_ble_eq_true rfl) (fun p e s m args below meth c A ls C T hl => ?_)
  have hx := C.1.1
  have hb := C.1.2.1
  have hml := C.1.2.2.1
  have hown : s.vm.findClass RX1 = some m.cls := C.1.2.2.2.1
  have hts := C.1.2.2.2.2
  have hK := C.2.2.2.1
  have hl : lv_has ls 2 [(0, .int x0), (1, .int x1)] := hl
  refine lv_iload_n hx hb dX1_isShape_0 rfl (lv_at hl 0 rfl) ?_
  refine lv_sipush (v := (-1024)) hx hb dX1_isShape_1 (by decide) ?_
  refine lv_icmp_lt (tgt := 23) hx hb dX1_isShape_4 (by decide) (fun c_4 => ?_) (fun c_4 => ?_)
  · skip
    refine lv_iconst (v := 0) hx hb dX1_isShape_23 (by decide) ?_
    have e9 : sp_isShape x0 x1 = 0 := by unfold sp_isShape; simp only [if_pos c_4]
    exact hw_iret C T (by decide) e9.symm rfl dX1_isShape_24
  · skip
    refine lv_iload_n hx hb dX1_isShape_7 rfl (lv_at hl 0 rfl) ?_
    refine lv_iload_n hx hb dX1_isShape_8 rfl (lv_at hl 1 rfl) ?_
    refine lv_icmp_ge (tgt := 23) hx hb dX1_isShape_9 (by decide) (fun c_9 => ?_) (fun c_9 => ?_)
    · skip
      refine lv_iconst (v := 0) hx hb dX1_isShape_23 (by decide) ?_
      have e9 : sp_isShape x0 x1 = 0 := by unfold sp_isShape; simp only [if_neg c_4, if_pos c_9]
      exact hw_iret C T (by decide) e9.symm rfl dX1_isShape_24
    · skip
      refine lv_iload_n hx hb dX1_isShape_12 rfl (lv_at hl 1 rfl) ?_
      refine lv_sipush (v := 1024) hx hb dX1_isShape_13 (by decide) ?_
      refine lv_icmp_gt (tgt := 23) hx hb dX1_isShape_16 (by decide) (fun c_16 => ?_) (fun c_16 => ?_)
      · skip
        refine lv_iconst (v := 0) hx hb dX1_isShape_23 (by decide) ?_
        have e9 : sp_isShape x0 x1 = 0 := by unfold sp_isShape; simp only [if_neg c_4, if_neg c_9, if_pos c_16]
        exact hw_iret C T (by decide) e9.symm rfl dX1_isShape_24
      · skip
        refine lv_iconst (v := 1) hx hb dX1_isShape_19 (by decide) ?_
        refine lv_goto (tgt := 24) hx hb dX1_isShape_20 (by decide) ?_
        have e9 : sp_isShape x0 x1 = 1 := by unfold sp_isShape; simp only [if_neg c_4, if_neg c_9, if_neg c_16]
        exact hw_iret C T (by decide) e9.symm rfl dX1_isShape_24
/-- isMover, its picture -/
def sp_isMover (x0 : Int32) : Int32 := sp_isWithin x0 0 2
set_option maxHeartbeats 4000000 in
set_option maxRecDepth 100000 in
theorem c_H_isMover {x0 : Int32}  : MI l D ((cA, .object RX0) :: tz) yX1_isMover wsX1_isMover { frames := 1, cells := 0, slots := 0, locals := 22 } [.int x0] (hw_W h a ad cA G S) (sp_isMover x0) (hw_W h a ad cA G S) := by
  refine MI.start (cc := cX1_isMover) (maxL := 1) (by decide) rfl (Nat.le_of_ble_eq_true rfl) (fun p e s m args below meth c A ls C T hl => ?_)
  have hx := C.1.1
  have hb := C.1.2.1
  have hml := C.1.2.2.1
  have hown : s.vm.findClass RX1 = some m.cls := C.1.2.2.2.1
  have hts := C.1.2.2.2.2
  have hK := C.2.2.2.1
  have hl : lv_has ls 1 [(0, .int x0)] := hl
  refine lv_iload_n hx hb dX1_isMover_0 rfl (lv_at hl 0 rfl) ?_
  refine lv_iconst (v := 0) hx hb dX1_isMover_1 (by decide) ?_
  refine lv_iconst (v := 2) hx hb dX1_isMover_2 (by decide) ?_
  refine hw_Si (As := [.int x0, .int 0, .int 2]) (rest := []) C T (c_H_isWithin) (va_cwS 3 hts gX1_isMover_X1_isWithin rfl rfl rfl (by decide +kernel) ⟨Nat.le_of_ble_eq_true rfl, Nat.le_of_ble_eq_true rfl⟩) hw_ad rfl hl.1 rfl (Nat.le_of_ble_eq_true rfl) dX1_isMover_3 ⟨Nat.zero_le _, Nat.zero_le _⟩ (fun H locs T => ?_)
  have e9 : sp_isMover x0 = sp_isWithin x0 0 2 := by rfl
  exact hw_iret C T (sp_isWithin_z _ _ _) e9.symm rfl dX1_isMover_6
/-- isSector, its picture -/
def sp_isSector (G : Nat → Int32) (x1 : Int32) : Int32 := if x1 < 0 then 0 else (if (G 0) ≤ x1 then 0 else 1)
theorem sx_n {G : Nat → Int32} {n : Nat} {x : Int32} (h : hg_n G n) (c : ¬ sp_isSector G x = 0) : ∃ j : Nat, j < n ∧ x = nI j := by
  unfold sp_isSector at c
  by_cases h0 : x < 0
  · simp [h0] at c
  · by_cases h1 : G 0 ≤ x
    · simp [h1] at c
    · obtain ⟨j, hj, rfl⟩ := nI_of h0
      refine ⟨j, ?_, rfl⟩
      rcases Nat.lt_or_ge j n with h2 | h2
      · exact h2
      · exact absurd (by rw [h.2]; exact nI_le h2 hj) h1
theorem sx_in {G : Nat → Int32} {n : Nat} {x : Int32} (h : hg_n G n) (c : ¬ sp_isSector G x = 0) : vp_in x 32 := by
  obtain ⟨j, hj, rfl⟩ := sx_n h c
  exact vp_in_nI (Nat.lt_of_lt_of_le hj h.1) (by decide)
set_option maxHeartbeats 4000000 in
set_option maxRecDepth 100000 in
theorem c_H_isSector {x1 : Int32}  : MI l D ((cA, .object RX0) :: tz) yX1_isSector wsX1_isSector { frames := 0, cells := 0, slots := 0, locals := 0 } [.ref h, .int x1] (hw_W h a ad cA G S) (sp_isSector G x1) (hw_W h a ad cA G S) := by
  refine MI.start (cc := cX1_isSector) (maxL := 2) (by decide) rfl (Nat.le_of_ble_eq_true rfl) (fun p e s m args below meth c A ls C T hl => ?_)
  have hx := C.1.1
  have hb := C.1.2.1
  have hml := C.1.2.2.1
  have hown : s.vm.findClass RX1 = some m.cls := C.1.2.2.2.1
  have hts := C.1.2.2.2.2
  have hK := C.2.2.2.1
  have hinH : ∀ w ∈ wsX10, w ∈ wsX1_isSector := by decide +kernel
  have hl : lv_has ls 2 [(0, .ref h), (1, .int x1)] := hl
  refine lv_iload_n hx hb dX1_isSector_0 rfl (lv_at hl 1 rfl) ?_
  refine lv_if_lt (tgt := 16) hx hb dX1_isSector_1 (by decide) (fun c_1 => ?_) (fun c_1 => ?_)
  · skip
    refine lv_iconst (v := 0) hx hb dX1_isSector_16 (by decide) ?_
    have e9 : sp_isSector G x1 = 0 := by unfold sp_isSector; simp only [if_pos c_1]
    exact hw_iret C T (by decide) e9.symm rfl dX1_isSector_17
  · skip
    refine lv_iload_n hx hb dX1_isSector_4 rfl (lv_at hl 1 rfl) ?_
    refine lv_aload_n hx hb dX1_isSector_5 rfl (lv_at hl 0 rfl) ?_
    refine va_get (D := D) (ci := 1) (v := .int (G 0)) (C := RX1) (T := TX1) (N := 7) hx hb hts hinH hown hK T.1 0 rfl rfl 1 (by decide) (hts (.fieldLink RX1 20 "MoverHall" "sectorCount" "I") (by decide +kernel)) (fun _ h9 => h9) rfl dX1_isSector_6 ?_
    refine lv_icmp_ge (tgt := 16) hx hb dX1_isSector_9 (by decide) (fun c_9 => ?_) (fun c_9 => ?_)
    · skip
      refine lv_iconst (v := 0) hx hb dX1_isSector_16 (by decide) ?_
      have e9 : sp_isSector G x1 = 0 := by unfold sp_isSector; simp only [if_neg c_1, if_pos c_9]
      exact hw_iret C T (by decide) e9.symm rfl dX1_isSector_17
    · skip
      refine lv_iconst (v := 1) hx hb dX1_isSector_12 (by decide) ?_
      refine lv_goto (tgt := 17) hx hb dX1_isSector_13 (by decide) ?_
      have e9 : sp_isSector G x1 = 1 := by unfold sp_isSector; simp only [if_neg c_1, if_neg c_9]
      exact hw_iret C T (by decide) e9.symm rfl dX1_isSector_17
/-- look, its picture -/
def sp_look (G : Nat → Int32) (x1 : Int32) : Int32 := if x1 = 0 then (G 0) else (if x1 = 1 then (G 1) else (if x1 = 2 then (G 2) else (if x1 = 3 then (G 3) else (if x1 = 4 then (G 5) else (if x1 = 5 then (G 4) else (-1))))))
set_option maxHeartbeats 4000000 in
set_option maxRecDepth 100000 in
theorem c_H_look {x1 : Int32}  : MI l D ((cA, .object RX0) :: tz) yX1_look wsX1_look { frames := 0, cells := 0, slots := 0, locals := 0 } [.ref h, .int x1] (hw_W h a ad cA G S) (sp_look G x1) (hw_W h a ad cA G S) := by
  refine MI.start (cc := cX1_look) (maxL := 2) (by decide) rfl (Nat.le_of_ble_eq_true rfl) (fun p e s m args below meth c A ls C T hl => ?_)
  have hx := C.1.1
  have hb := C.1.2.1
  have hml := C.1.2.2.1
  have hown : s.vm.findClass RX1 = some m.cls := C.1.2.2.2.1
  have hts := C.1.2.2.2.2
  have hK := C.2.2.2.1
  have hinH : ∀ w ∈ wsX10, w ∈ wsX1_look := by decide +kernel
  have hl : lv_has ls 2 [(0, .ref h), (1, .int x1)] := hl
  refine lv_iload_n hx hb dX1_look_0 rfl (lv_at hl 1 rfl) ?_
  by_cases c_1_0 : x1 = 0
  · skip
    refine lv_tableIn (off := 39) (tgt := 40) hx hb dX1_look_1 (by rw [c_1_0]; decide) (by rw [c_1_0]; decide) (by rw [c_1_0]; decide +kernel) (by decide) ?_
    refine lv_aload_n hx hb dX1_look_40 rfl (lv_at hl 0 rfl) ?_
    refine va_get (D := D) (ci := 1) (v := .int (G 0)) (C := RX1) (T := TX1) (N := 7) hx hb hts hinH hown hK T.1 0 rfl rfl 1 (by decide) (hts (.fieldLink RX1 20 "MoverHall" "sectorCount" "I") (by decide +kernel)) (fun _ h9 => h9) rfl dX1_look_41 ?_
    have e9 : sp_look G x1 = G 0 := by unfold sp_look; simp only [if_pos c_1_0]
    exact hw_iret C T rfl e9.symm rfl dX1_look_44
  · skip
    by_cases c_1_1 : x1 = 1
    · skip
      refine lv_tableIn (off := 44) (tgt := 45) hx hb dX1_look_1 (by rw [c_1_1]; decide) (by rw [c_1_1]; decide) (by rw [c_1_1]; decide +kernel) (by decide) ?_
      refine lv_aload_n hx hb dX1_look_45 rfl (lv_at hl 0 rfl) ?_
      refine va_get (D := D) (ci := 1) (v := .int (G 1)) (C := RX1) (T := TX1) (N := 7) hx hb hts hinH hown hK T.1 0 rfl rfl 2 (by decide) (hts (.fieldLink RX1 49 "MoverHall" "pairCount" "I") (by decide +kernel)) (fun _ h9 => h9) rfl dX1_look_46 ?_
      have e9 : sp_look G x1 = G 1 := by unfold sp_look; simp only [if_neg c_1_0, if_pos c_1_1]
      exact hw_iret C T rfl e9.symm rfl dX1_look_49
    · skip
      by_cases c_1_2 : x1 = 2
      · skip
        refine lv_tableIn (off := 49) (tgt := 50) hx hb dX1_look_1 (by rw [c_1_2]; decide) (by rw [c_1_2]; decide) (by rw [c_1_2]; decide +kernel) (by decide) ?_
        refine lv_aload_n hx hb dX1_look_50 rfl (lv_at hl 0 rfl) ?_
        refine va_get (D := D) (ci := 1) (v := .int (G 2)) (C := RX1) (T := TX1) (N := 7) hx hb hts hinH hown hK T.1 0 rfl rfl 3 (by decide) (hts (.fieldLink RX1 55 "MoverHall" "tickCount" "I") (by decide +kernel)) (fun _ h9 => h9) rfl dX1_look_51 ?_
        have e9 : sp_look G x1 = G 2 := by unfold sp_look; simp only [if_neg c_1_0, if_neg c_1_1, if_pos c_1_2]
        exact hw_iret C T rfl e9.symm rfl dX1_look_54
      · skip
        by_cases c_1_3 : x1 = 3
        · skip
          refine lv_tableIn (off := 54) (tgt := 55) hx hb dX1_look_1 (by rw [c_1_3]; decide) (by rw [c_1_3]; decide) (by rw [c_1_3]; decide +kernel) (by decide) ?_
          refine lv_aload_n hx hb dX1_look_55 rfl (lv_at hl 0 rfl) ?_
          refine va_get (D := D) (ci := 1) (v := .int (G 3)) (C := RX1) (T := TX1) (N := 7) hx hb hts hinH hown hK T.1 0 rfl rfl 4 (by decide) (hts (.fieldLink RX1 58 "MoverHall" "moverCount" "I") (by decide +kernel)) (fun _ h9 => h9) rfl dX1_look_56 ?_
          have e9 : sp_look G x1 = G 3 := by unfold sp_look; simp only [if_neg c_1_0, if_neg c_1_1, if_neg c_1_2, if_pos c_1_3]
          exact hw_iret C T rfl e9.symm rfl dX1_look_59
        · skip
          by_cases c_1_4 : x1 = 4
          · skip
            refine lv_tableIn (off := 59) (tgt := 60) hx hb dX1_look_1 (by rw [c_1_4]; decide) (by rw [c_1_4]; decide) (by rw [c_1_4]; decide +kernel) (by decide) ?_
            refine lv_aload_n hx hb dX1_look_60 rfl (lv_at hl 0 rfl) ?_
            refine va_get (D := D) (ci := 1) (v := .int (G 5)) (C := RX1) (T := TX1) (N := 7) hx hb hts hinH hown hK T.1 0 rfl rfl 6 (by decide) (hts (.fieldLink RX1 16 "MoverHall" "guestSector" "I") (by decide +kernel)) (fun _ h9 => h9) rfl dX1_look_61 ?_
            have e9 : sp_look G x1 = G 5 := by unfold sp_look; simp only [if_neg c_1_0, if_neg c_1_1, if_neg c_1_2, if_neg c_1_3, if_pos c_1_4]
            exact hw_iret C T rfl e9.symm rfl dX1_look_64
          · skip
            by_cases c_1_5 : x1 = 5
            · skip
              refine lv_tableIn (off := 64) (tgt := 65) hx hb dX1_look_1 (by rw [c_1_5]; decide) (by rw [c_1_5]; decide) (by rw [c_1_5]; decide +kernel) (by decide) ?_
              refine lv_aload_n hx hb dX1_look_65 rfl (lv_at hl 0 rfl) ?_
              refine va_get (D := D) (ci := 1) (v := .int (G 4)) (C := RX1) (T := TX1) (N := 7) hx hb hts hinH hown hK T.1 0 rfl rfl 5 (by decide) (hts (.fieldLink RX1 61 "MoverHall" "blockedCount" "I") (by decide +kernel)) (fun _ h9 => h9) rfl dX1_look_66 ?_
              have e9 : sp_look G x1 = G 4 := by unfold sp_look; simp only [if_neg c_1_0, if_neg c_1_1, if_neg c_1_2, if_neg c_1_3, if_neg c_1_4, if_pos c_1_5]
              exact hw_iret C T rfl e9.symm rfl dX1_look_69
            · skip
              refine lv_tableOut (tgt := 70) hx hb dX1_look_1 (by have z0 := lv_neT (a := 0) c_1_0 (by decide); have z1 := lv_neT (a := 1) c_1_1 (by decide); have z2 := lv_neT (a := 2) c_1_2 (by decide); have z3 := lv_neT (a := 3) c_1_3 (by decide); have z4 := lv_neT (a := 4) c_1_4 (by decide); have z5 := lv_neT (a := 5) c_1_5 (by decide); omega) (by decide) ?_
              refine lv_iconst (v := (-1)) hx hb dX1_look_70 (by decide) ?_
              have e9 : sp_look G x1 = (-1) := by unfold sp_look; simp only [if_neg c_1_0, if_neg c_1_1, if_neg c_1_2, if_neg c_1_3, if_neg c_1_4, if_neg c_1_5]
              exact hw_iret C T rfl e9.symm rfl dX1_look_71
/-- lightNow, its picture -/
def sp_lightNow (G : Nat → Int32) (S : Nat → Nat → Int32) (i : Nat) : Int32 := if (S i 3) = 1 then (if 4 ≤ ((G 2) - (G 2) / 16 * 16) then ((S i 2) / 2) else (S i 2)) else (if (S i 3) = 2 then (if (((G 2) / 32) - ((G 2) / 32) / 2 * 2) = 0 then (S i 2) else 0) else (if (S i 3) = 3 then (sp_max 0 ((S i 2) - (G 3))) else (S i 2)))
set_option maxHeartbeats 4000000 in
set_option maxRecDepth 100000 in
theorem c_H_lightNow {i : Nat} (hi : i < 32) : MI l D ((cA, .object RX0) :: tz) yX1_lightNow wsX1_lightNow { frames := 1, cells := 0, slots := 0, locals := 21 } [.ref h, .ref (ad i)] (hw_W h a ad cA G S) (sp_lightNow G S i) (hw_W h a ad cA G S) := by
  refine MI.start (cc := cX1_lightNow) (maxL := 2) (by decide) rfl (Nat.le_of_ble_eq_true rfl) (fun p e s m args below meth c A ls C T hl => ?_)
  have hx := C.1.1
  have hb := C.1.2.1
  have hml := C.1.2.2.1
  have hown : s.vm.findClass RX1 = some m.cls := C.1.2.2.2.1
  have hts := C.1.2.2.2.2
  have hK := C.2.2.2.1
  have hN := C.2.2.2.2.1
  have hinH : ∀ w ∈ wsX10, w ∈ wsX1_lightNow := by decide +kernel
  have hinS : ∀ w ∈ wsX00, w ∈ wsX1_lightNow := by decide +kernel
  have hl : lv_has ls 2 [(0, .ref h), (1, .ref (ad i))] := hl
  refine lv_aload_n hx hb dX1_lightNow_0 rfl (lv_at hl 1 rfl) ?_
  refine va_getN (D := D) (ci := 0) (v := .int (S i 3)) (C := RX0) (T := TX0) (N := 13) hx hb hts hinS hown hK T.1 (i + 2) (hw_at hi) rfl 3 (by decide) (va_Nw.use rfl (hN (.fieldLinkNest RX1 131 "MoverHall$Sector" "kind" "I" "MoverHall") (by decide +kernel))) (fun _ h9 => h9) rfl dX1_lightNow_1 ?_
  by_cases c_4_1 : (S i 3) = 1
  · skip
    refine lv_tableIn (off := 28) (tgt := 32) hx hb dX1_lightNow_4 (by rw [c_4_1]; decide) (by rw [c_4_1]; decide) (by rw [c_4_1]; decide +kernel) (by decide) ?_
    refine lv_aload_n hx hb dX1_lightNow_32 rfl (lv_at hl 0 rfl) ?_
    refine va_get (D := D) (ci := 1) (v := .int (G 2)) (C := RX1) (T := TX1) (N := 7) hx hb hts hinH hown hK T.1 0 rfl rfl 3 (by decide) (hts (.fieldLink RX1 55 "MoverHall" "tickCount" "I") (by decide +kernel)) (fun _ h9 => h9) rfl dX1_lightNow_33 ?_
    refine lv_bipush (v := 16) hx hb dX1_lightNow_36 (by decide) ?_
    refine lv_irem hx hb dX1_lightNow_38 (by decide) ?_
    refine lv_iconst (v := 4) hx hb dX1_lightNow_39 (by decide) ?_
    refine lv_icmp_ge (tgt := 50) hx hb dX1_lightNow_40 (by decide) (fun c_40 => ?_) (fun c_40 => ?_)
    · skip
      refine lv_aload_n hx hb dX1_lightNow_50 rfl (lv_at hl 1 rfl) ?_
      refine va_getN (D := D) (ci := 0) (v := .int (S i 2)) (C := RX0) (T := TX0) (N := 13) hx hb hts hinS hown hK T.1 (i + 2) (hw_at hi) rfl 2 (by decide) (va_Nw.use rfl (hN (.fieldLinkNest RX1 134 "MoverHall$Sector" "light" "I" "MoverHall") (by decide +kernel))) (fun _ h9 => h9) rfl dX1_lightNow_51 ?_
      refine lv_iconst (v := 2) hx hb dX1_lightNow_54 (by decide) ?_
      refine lv_idiv hx hb dX1_lightNow_55 (by decide) ?_
      have e9 : sp_lightNow G S i = (S i 2) / 2 := by unfold sp_lightNow; simp only [if_pos c_4_1, if_pos c_40]
      exact hw_iret C T rfl e9.symm rfl dX1_lightNow_56
    · skip
      refine lv_aload_n hx hb dX1_lightNow_43 rfl (lv_at hl 1 rfl) ?_
      refine va_getN (D := D) (ci := 0) (v := .int (S i 2)) (C := RX0) (T := TX0) (N := 13) hx hb hts hinS hown hK T.1 (i + 2) (hw_at hi) rfl 2 (by decide) (va_Nw.use rfl (hN (.fieldLinkNest RX1 134 "MoverHall$Sector" "light" "I" "MoverHall") (by decide +kernel))) (fun _ h9 => h9) rfl dX1_lightNow_44 ?_
      refine lv_goto (tgt := 56) hx hb dX1_lightNow_47 (by decide) ?_
      have e9 : sp_lightNow G S i = S i 2 := by unfold sp_lightNow; simp only [if_pos c_4_1, if_neg c_40]
      exact hw_iret C T rfl e9.symm rfl dX1_lightNow_56
  · skip
    by_cases c_4_2 : (S i 3) = 2
    · skip
      refine lv_tableIn (off := 53) (tgt := 57) hx hb dX1_lightNow_4 (by rw [c_4_2]; decide) (by rw [c_4_2]; decide) (by rw [c_4_2]; decide +kernel) (by decide) ?_
      refine lv_aload_n hx hb dX1_lightNow_57 rfl (lv_at hl 0 rfl) ?_
      refine va_get (D := D) (ci := 1) (v := .int (G 2)) (C := RX1) (T := TX1) (N := 7) hx hb hts hinH hown hK T.1 0 rfl rfl 3 (by decide) (hts (.fieldLink RX1 55 "MoverHall" "tickCount" "I") (by decide +kernel)) (fun _ h9 => h9) rfl dX1_lightNow_58 ?_
      refine lv_bipush (v := 32) hx hb dX1_lightNow_61 (by decide) ?_
      refine lv_idiv hx hb dX1_lightNow_63 (by decide) ?_
      refine lv_iconst (v := 2) hx hb dX1_lightNow_64 (by decide) ?_
      refine lv_irem hx hb dX1_lightNow_65 (by decide) ?_
      refine lv_if_ne (tgt := 76) hx hb dX1_lightNow_66 (by decide) (fun c_66 => ?_) (fun c_66 => ?_)
      · skip
        refine lv_iconst (v := 0) hx hb dX1_lightNow_76 (by decide) ?_
        have e9 : sp_lightNow G S i = 0 := by unfold sp_lightNow; simp only [if_neg c_4_1, if_pos c_4_2, if_neg c_66]
        exact hw_iret C T rfl e9.symm rfl dX1_lightNow_77
      · skip
        refine lv_aload_n hx hb dX1_lightNow_69 rfl (lv_at hl 1 rfl) ?_
        refine va_getN (D := D) (ci := 0) (v := .int (S i 2)) (C := RX0) (T := TX0) (N := 13) hx hb hts hinS hown hK T.1 (i + 2) (hw_at hi) rfl 2 (by decide) (va_Nw.use rfl (hN (.fieldLinkNest RX1 134 "MoverHall$Sector" "light" "I" "MoverHall") (by decide +kernel))) (fun _ h9 => h9) rfl dX1_lightNow_70 ?_
        refine lv_goto (tgt := 77) hx hb dX1_lightNow_73 (by decide) ?_
        have e9 : sp_lightNow G S i = S i 2 := by unfold sp_lightNow; simp only [if_neg c_4_1, if_pos c_4_2, if_pos c_66]
        exact hw_iret C T rfl e9.symm rfl dX1_lightNow_77
    · skip
      by_cases c_4_3 : (S i 3) = 3
      · skip
        refine lv_tableIn (off := 74) (tgt := 78) hx hb dX1_lightNow_4 (by rw [c_4_3]; decide) (by rw [c_4_3]; decide) (by rw [c_4_3]; decide +kernel) (by decide) ?_
        refine lv_iconst (v := 0) hx hb dX1_lightNow_78 (by decide) ?_
        refine lv_aload_n hx hb dX1_lightNow_79 rfl (lv_at hl 1 rfl) ?_
        refine va_getN (D := D) (ci := 0) (v := .int (S i 2)) (C := RX0) (T := TX0) (N := 13) hx hb hts hinS hown hK T.1 (i + 2) (hw_at hi) rfl 2 (by decide) (va_Nw.use rfl (hN (.fieldLinkNest RX1 134 "MoverHall$Sector" "light" "I" "MoverHall") (by decide +kernel))) (fun _ h9 => h9) rfl dX1_lightNow_80 ?_
        refine lv_aload_n hx hb dX1_lightNow_83 rfl (lv_at hl 0 rfl) ?_
        refine va_get (D := D) (ci := 1) (v := .int (G 3)) (C := RX1) (T := TX1) (N := 7) hx hb hts hinH hown hK T.1 0 rfl rfl 4 (by decide) (hts (.fieldLink RX1 58 "MoverHall" "moverCount" "I") (by decide +kernel)) (fun _ h9 => h9) rfl dX1_lightNow_84 ?_
        refine lv_isub hx hb dX1_lightNow_87 ?_
        refine va_mmax hx hb (by rw [hml, hl.1]) hown (hts (.methodLink RX1 124 Lib.Math.max.name) (by decide +kernel)) (hts (.static Lib.Math.max.name) (by decide +kernel)) (hts (.initialized "java/lang/Math") (by decide +kernel)) (hts (.code Lib.Math.max.name Lib.Math.max.code 2 (some .int)) (by decide +kernel)) (Nat.le_of_ble_eq_true rfl) (Nat.le_of_ble_eq_true rfl) (Nat.zero_le _) (Nat.zero_le _) dX1_lightNow_88 ?_
        refine W.eq (g2 := F0 m 91 ls [.int (sp_max 0 ((S i 2) - (G 3)))]) rfl ?_
        have e9 : sp_lightNow G S i = sp_max 0 ((S i 2) - (G 3)) := by unfold sp_lightNow; simp only [if_neg c_4_1, if_neg c_4_2, if_pos c_4_3]
        exact hw_iret C T rfl e9.symm rfl dX1_lightNow_91
      · skip
        refine lv_tableOut (tgt := 92) hx hb dX1_lightNow_4 (by have z1 := lv_neT (a := 1) c_4_1 (by decide); have z2 := lv_neT (a := 2) c_4_2 (by decide); have z3 := lv_neT (a := 3) c_4_3 (by decide); omega) (by decide) ?_
        refine lv_aload_n hx hb dX1_lightNow_92 rfl (lv_at hl 1 rfl) ?_
        refine va_getN (D := D) (ci := 0) (v := .int (S i 2)) (C := RX0) (T := TX0) (N := 13) hx hb hts hinS hown hK T.1 (i + 2) (hw_at hi) rfl 2 (by decide) (va_Nw.use rfl (hN (.fieldLinkNest RX1 134 "MoverHall$Sector" "light" "I" "MoverHall") (by decide +kernel))) (fun _ h9 => h9) rfl dX1_lightNow_93 ?_
        have e9 : sp_lightNow G S i = S i 2 := by unfold sp_lightNow; simp only [if_neg c_4_1, if_neg c_4_2, if_neg c_4_3]
        exact hw_iret C T rfl e9.symm rfl dX1_lightNow_96
end
end
section
section
variable {l : Launch} {D : va_G} {h a : Nat} {ad : Nat → Nat} {cA : ClassId} {tz : List (ClassId × FieldType)} {G : Nat → Int32} {S : Nat → Nat → Int32} {n : Nat}
/-- lowFloor: its loop, by what is left to do -/
def sp_lowFloor_loop (S : Nat → Nat → Int32) (j : Nat) : Nat → Nat → Int32 → Int32
  | 0, _, x => x
  | k + 1, i, x => if (sp_hasNeighbour S j (nI i)) = 0 then (sp_lowFloor_loop S j k (i + 1) x) else (sp_lowFloor_loop S j k (i + 1) (sp_min x (S i 6)))
set_option maxHeartbeats 4000000 in
set_option maxRecDepth 100000 in
theorem lp_lowFloor {p : Program} {e : Env} {s : State} {m : MethodId} {args : Array Value} {below : List Frame} {meth : Method} {c : Code} {A : Nat → Prop} {j : Nat} (hj : j < 32) (hG : hg_n G n) (C : hw_C p s m args meth c cX1_lowFloor (some .int) 4 wsX1_lowFloor yX1_lowFloor.cls D ((cA, .object RX0) :: tz) A) :
    ∀ (k i : Nat) (x : Int32), i + k = n → ∀ (ls : Array Slot) (H : Heap) (locs : List Loc), hw_T D A s.heap (hw_W h a ad cA G S) H locs → lv_has ls 4 [(0, .ref h), (1, .ref (ad j)), (2, .int x), (3, .int (nI i))] → W p l e { frames := 1, cells := 0, slots := 0, locals := 21 } s m args below meth c H locs 0 0 (MQ below (va_Qi (fun (r' : Int32) (_ : Unit) => r' = sp_lowFloor_loop S j k i x) (fun _ t => va_P D vwCl (hw_W h a ad cA G S) t.heap) A) args s 0 0 A) (F0 m 7 ls []) := by
  have hx := C.1.1
  have hb := C.1.2.1
  have hml := C.1.2.2.1
  have hown : s.vm.findClass RX1 = some m.cls := C.1.2.2.2.1
  have hts := C.1.2.2.2.2
  have hK := C.2.2.2.1
  have hN := C.2.2.2.2.1
  have hinH : ∀ w ∈ wsX10, w ∈ wsX1_lowFloor := by decide +kernel
  have hinS : ∀ w ∈ wsX00, w ∈ wsX1_lowFloor := by decide +kernel
  have hn32 := hG.1
  intro k
  induction k with
  | zero =>
    intro i x hik ls H locs T hl
    refine lv_iload_n hx hb dX1_lowFloor_7 rfl (lv_at hl 3 rfl) ?_
    refine lv_aload_n hx hb dX1_lowFloor_8 rfl (lv_at hl 0 rfl) ?_
    refine va_get (D := D) (ci := 1) (v := .int (G 0)) (C := RX1) (T := TX1) (N := 7) hx hb hts hinH hown hK T.1 0 rfl rfl 1 (by decide) (hts (.fieldLink RX1 20 "MoverHall" "sectorCount" "I") (by decide +kernel)) (fun _ h9 => h9) rfl dX1_lowFloor_9 ?_
    refine lv_icmp_ge (tgt := 43) hx hb dX1_lowFloor_12 (by decide) (fun c_12 => ?_) (fun c_12 => absurd (show G 0 ≤ nI i by rw [hG.2]; exact nI_le (show n ≤ i by omega) (by omega)) c_12)
    refine lv_iload_n hx hb dX1_lowFloor_43 rfl (lv_at hl 2 rfl) ?_
    have e9 : sp_lowFloor_loop S j 0 i x = x := by rw [sp_lowFloor_loop]
    exact hw_iret C T rfl e9.symm rfl dX1_lowFloor_44
  | succ k ih =>
    intro i x hik ls H locs T hl
    refine lv_iload_n hx hb dX1_lowFloor_7 rfl (lv_at hl 3 rfl) ?_
    refine lv_aload_n hx hb dX1_lowFloor_8 rfl (lv_at hl 0 rfl) ?_
    refine va_get (D := D) (ci := 1) (v := .int (G 0)) (C := RX1) (T := TX1) (N := 7) hx hb hts hinH hown hK T.1 0 rfl rfl 1 (by decide) (hts (.fieldLink RX1 20 "MoverHall" "sectorCount" "I") (by decide +kernel)) (fun _ h9 => h9) rfl dX1_lowFloor_9 ?_
    refine lv_icmp_ge (tgt := 43) hx hb dX1_lowFloor_12 (by decide) (fun c_12 => absurd c_12 (show ¬ G 0 ≤ nI i by rw [hG.2]; exact nI_ge (show i < n by omega) (by omega))) (fun c_12 => ?_)
    refine lv_aload_n hx hb dX1_lowFloor_15 rfl (lv_at hl 1 rfl) ?_
    refine lv_iload_n hx hb dX1_lowFloor_16 rfl (lv_at hl 3 rfl) ?_
    refine hw_Ni (As := [.int (nI i)]) (rest := []) C T (c_S_hasNeighbour hj) ⟨va_cnB 1 hts gX1_lowFloor_X0_hasNeighbour_n42 rfl rfl rfl (hN (.methodLinkNest RX1 42 yX0_hasNeighbour "MoverHall") (by decide +kernel)) (hts (.initialized RX0) (by decide +kernel)) (by decide +kernel) ⟨Nat.le_of_ble_eq_true rfl, Nat.le_of_ble_eq_true rfl⟩, hts (.instanceMethod yX0_hasNeighbour) (by decide +kernel), hts (.selects RX0 yX0_hasNeighbour yX0_hasNeighbour) (by decide +kernel)⟩ (hw_isS hj) hw_ad rfl hl.1 rfl (Nat.le_of_ble_eq_true rfl) dX1_lowFloor_17 ⟨Nat.zero_le _, Nat.zero_le _⟩ (fun H locs T => ?_)
    refine lv_if_eq (tgt := 37) hx hb dX1_lowFloor_20 (by decide) (fun c_20 => ?_) (fun c_20 => ?_)
    · skip
      refine lv_iinc (v := nI (i + 1)) (lv' := [(3, .int (nI (i + 1))), (0, .ref h), (1, .ref (ad j)), (2, .int x)]) hx hb dX1_lowFloor_37 hl (k := 3) rfl (nI_1 i) (by decide) rfl (fun ls hl => ?_)
      refine lv_goto (tgt := 7) hx hb dX1_lowFloor_40 (by decide) ?_
      rw [show sp_lowFloor_loop S j (k + 1) i x = sp_lowFloor_loop S j k (i + 1) x from by rw [sp_lowFloor_loop]; simp only [if_pos c_20]]
      exact ih (i + 1) _ (by omega) _ _ _ T (lv_sub hl [1, 2, 3, 0] rfl)
    · skip
      refine lv_iload_n hx hb dX1_lowFloor_23 rfl (lv_at hl 2 rfl) ?_
      refine lv_aload_n hx hb dX1_lowFloor_24 rfl (lv_at hl 0 rfl) ?_
      refine va_get (D := D) (ci := 1) (v := .ref a) (C := RX1) (T := TX1) (N := 7) hx hb hts hinH hown hK T.1 0 rfl rfl 0 (by decide) (hts (.fieldLink RX1 11 "MoverHall" "sectors" "[LMoverHall$Sector;") (by decide +kernel)) (fun _ h9 => h9) rfl dX1_lowFloor_25 ?_
      refine lv_iload_n hx hb dX1_lowFloor_28 rfl (lv_at hl 3 rfl) ?_
      have h_29 : vp_in (nI i) 32 := vp_in_nI (show i < 32 by omega) (by decide)
      refine va_aldq hx hb hK T.1 1 0 rfl rfl h_29 dX1_lowFloor_29 ?_
      refine W.eq (g2 := F0 m 30 ls [.ref (ad i), .int x]) (by rw [nI_clamp (show i < 2 ^ 31 by omega)] <;> rfl) ?_
      refine va_getN (D := D) (ci := 0) (v := .int (S i 6)) (C := RX0) (T := TX0) (N := 13) hx hb hts hinS hown hK T.1 (i + 2) (hw_at (show i < 32 by omega)) rfl 6 (by decide) (va_Nw.use rfl (hN (.fieldLinkNest RX1 90 "MoverHall$Sector" "floor" "I" "MoverHall") (by decide +kernel))) (fun _ h9 => h9) rfl dX1_lowFloor_30 ?_
      refine va_mmin hx hb (by rw [hml, hl.1]) hown (hts (.methodLink RX1 118 Lib.Math.min.name) (by decide +kernel)) (hts (.static Lib.Math.min.name) (by decide +kernel)) (hts (.initialized "java/lang/Math") (by decide +kernel)) (hts (.code Lib.Math.min.name Lib.Math.min.code 2 (some .int)) (by decide +kernel)) (Nat.le_of_ble_eq_true rfl) (Nat.le_of_ble_eq_true rfl) (Nat.zero_le _) (Nat.zero_le _) dX1_lowFloor_33 ?_
      refine W.eq (g2 := F0 m 36 ls [.int (sp_min x (S i 6))]) rfl ?_
      refine lv_istore_n (lv' := [(2, .int (sp_min x (S i 6))), (0, .ref h), (1, .ref (ad j)), (3, .int (nI i))]) hx hb dX1_lowFloor_36 rfl hl (by decide) rfl (fun ls hl => ?_)
      refine lv_iinc (v := nI (i + 1)) (lv' := [(3, .int (nI (i + 1))), (2, .int (sp_min x (S i 6))), (0, .ref h), (1, .ref (ad j))]) hx hb dX1_lowFloor_37 hl (k := 3) rfl (nI_1 i) (by decide) rfl (fun ls hl => ?_)
      refine lv_goto (tgt := 7) hx hb dX1_lowFloor_40 (by decide) ?_
      rw [show sp_lowFloor_loop S j (k + 1) i x = sp_lowFloor_loop S j k (i + 1) (sp_min x (S i 6)) from by rw [sp_lowFloor_loop]; simp only [if_neg c_20]]
      exact ih (i + 1) _ (by omega) _ _ _ T (lv_sub hl [2, 3, 1, 0] rfl)
/-- lowFloor, its picture -/
def sp_lowFloor (S : Nat → Nat → Int32) (n : Nat) (j : Nat) : Int32 := sp_lowFloor_loop S j n 0 (S j 6)
set_option maxHeartbeats 4000000 in
set_option maxRecDepth 100000 in
theorem c_H_lowFloor {j : Nat} (hj : j < 32) (hG : hg_n G n) : MI l D ((cA, .object RX0) :: tz) yX1_lowFloor wsX1_lowFloor { frames := 1, cells := 0, slots := 0, locals := 21 } [.ref h, .ref (ad j)] (hw_W h a ad cA G S) (sp_lowFloor S n j) (hw_W h a ad cA G S) := by
  refine MI.start (cc := cX1_lowFloor) (maxL := 4) (by decide) rfl (Nat.le_of_ble_eq_true rfl) (fun p e s m args below meth c A ls C T hl => ?_)
  have hx := C.1.1
  have hb := C.1.2.1
  have hml := C.1.2.2.1
  have hown : s.vm.findClass RX1 = some m.cls := C.1.2.2.2.1
  have hts := C.1.2.2.2.2
  have hK := C.2.2.2.1
  have hN := C.2.2.2.2.1
  have hinH : ∀ w ∈ wsX10, w ∈ wsX1_lowFloor := by decide +kernel
  have hinS : ∀ w ∈ wsX00, w ∈ wsX1_lowFloor := by decide +kernel
  have hn32 := hG.1
  have hl : lv_has ls 4 [(0, .ref h), (1, .ref (ad j))] := hl
  refine lv_aload_n hx hb dX1_lowFloor_0 rfl (lv_at hl 1 rfl) ?_
  refine va_getN (D := D) (ci := 0) (v := .int (S j 6)) (C := RX0) (T := TX0) (N := 13) hx hb hts hinS hown hK T.1 (j + 2) (hw_at hj) rfl 6 (by decide) (va_Nw.use rfl (hN (.fieldLinkNest RX1 90 "MoverHall$Sector" "floor" "I" "MoverHall") (by decide +kernel))) (fun _ h9 => h9) rfl dX1_lowFloor_1 ?_
  refine lv_istore_n (lv' := [(2, .int (S j 6)), (0, .ref h), (1, .ref (ad j))]) hx hb dX1_lowFloor_4 rfl hl (by decide) rfl (fun ls hl => ?_)
  refine lv_iconst (v := 0) hx hb dX1_lowFloor_5 (by decide) ?_
  refine lv_istore_n (lv' := [(3, .int 0), (2, .int (S j 6)), (0, .ref h), (1, .ref (ad j))]) hx hb dX1_lowFloor_6 rfl hl (by decide) rfl (fun ls hl => ?_)
  rw [show sp_lowFloor S n j = sp_lowFloor_loop S j n 0 (S j 6) from by rfl]
  exact lp_lowFloor hj hG C n 0 _ (by omega) _ _ _ T (lv_sub hl [2, 3, 1, 0] rfl)
/-- highFloor: its loop, by what is left to do -/
def sp_highFloor_loop (S : Nat → Nat → Int32) (j : Nat) : Nat → Nat → Int32 → Int32
  | 0, _, x => x
  | k + 1, i, x => if (sp_hasNeighbour S j (nI i)) = 0 then (sp_highFloor_loop S j k (i + 1) x) else (sp_highFloor_loop S j k (i + 1) (sp_max x (S i 6)))
set_option maxHeartbeats 4000000 in
set_option maxRecDepth 100000 in
theorem lp_highFloor {p : Program} {e : Env} {s : State} {m : MethodId} {args : Array Value} {below : List Frame} {meth : Method} {c : Code} {A : Nat → Prop} {j : Nat} (hj : j < 32) (hG : hg_n G n) (C : hw_C p s m args meth c cX1_highFloor (some .int) 4 wsX1_highFloor yX1_highFloor.cls D ((cA, .object RX0) :: tz) A) :
    ∀ (k i : Nat) (x : Int32), i + k = n → ∀ (ls : Array Slot) (H : Heap) (locs : List Loc), hw_T D A s.heap (hw_W h a ad cA G S) H locs → lv_has ls 4 [(0, .ref h), (1, .ref (ad j)), (2, .int x), (3, .int (nI i))] → W p l e { frames := 1, cells := 0, slots := 0, locals := 21 } s m args below meth c H locs 0 0 (MQ below (va_Qi (fun (r' : Int32) (_ : Unit) => r' = sp_highFloor_loop S j k i x) (fun _ t => va_P D vwCl (hw_W h a ad cA G S) t.heap) A) args s 0 0 A) (F0 m 7 ls []) := by
  have hx := C.1.1
  have hb := C.1.2.1
  have hml := C.1.2.2.1
  have hown : s.vm.findClass RX1 = some m.cls := C.1.2.2.2.1
  have hts := C.1.2.2.2.2
  have hK := C.2.2.2.1
  have hN := C.2.2.2.2.1
  have hinH : ∀ w ∈ wsX10, w ∈ wsX1_highFloor := by decide +kernel
  have hinS : ∀ w ∈ wsX00, w ∈ wsX1_highFloor := by decide +kernel
  have hn32 := hG.1
  intro k
  induction k with
  | zero =>
    intro i x hik ls H locs T hl
    refine lv_iload_n hx hb dX1_highFloor_7 rfl (lv_at hl 3 rfl) ?_
    refine lv_aload_n hx hb dX1_highFloor_8 rfl (lv_at hl 0 rfl) ?_
    refine va_get (D := D) (ci := 1) (v := .int (G 0)) (C := RX1) (T := TX1) (N := 7) hx hb hts hinH hown hK T.1 0 rfl rfl 1 (by decide) (hts (.fieldLink RX1 20 "MoverHall" "sectorCount" "I") (by decide +kernel)) (fun _ h9 => h9) rfl dX1_highFloor_9 ?_
    refine lv_icmp_ge (tgt := 43) hx hb dX1_highFloor_12 (by decide) (fun c_12 => ?_) (fun c_12 => absurd (show G 0 ≤ nI i by rw [hG.2]; exact nI_le (show n ≤ i by omega) (by omega)) c_12)
    refine lv_iload_n hx hb dX1_highFloor_43 rfl (lv_at hl 2 rfl) ?_
    have e9 : sp_highFloor_loop S j 0 i x = x := by rw [sp_highFloor_loop]
    exact hw_iret C T rfl e9.symm rfl dX1_highFloor_44
  | succ k ih =>
    intro i x hik ls H locs T hl
    refine lv_iload_n hx hb dX1_highFloor_7 rfl (lv_at hl 3 rfl) ?_
    refine lv_aload_n hx hb dX1_highFloor_8 rfl (lv_at hl 0 rfl) ?_
    refine va_get (D := D) (ci := 1) (v := .int (G 0)) (C := RX1) (T := TX1) (N := 7) hx hb hts hinH hown hK T.1 0 rfl rfl 1 (by decide) (hts (.fieldLink RX1 20 "MoverHall" "sectorCount" "I") (by decide +kernel)) (fun _ h9 => h9) rfl dX1_highFloor_9 ?_
    refine lv_icmp_ge (tgt := 43) hx hb dX1_highFloor_12 (by decide) (fun c_12 => absurd c_12 (show ¬ G 0 ≤ nI i by rw [hG.2]; exact nI_ge (show i < n by omega) (by omega))) (fun c_12 => ?_)
    refine lv_aload_n hx hb dX1_highFloor_15 rfl (lv_at hl 1 rfl) ?_
    refine lv_iload_n hx hb dX1_highFloor_16 rfl (lv_at hl 3 rfl) ?_
    refine hw_Ni (As := [.int (nI i)]) (rest := []) C T (c_S_hasNeighbour hj) ⟨va_cnB 1 hts gX1_highFloor_X0_hasNeighbour_n42 rfl rfl rfl (hN (.methodLinkNest RX1 42 yX0_hasNeighbour "MoverHall") (by decide +kernel)) (hts (.initialized RX0) (by decide +kernel)) (by decide +kernel) ⟨Nat.le_of_ble_eq_true rfl, Nat.le_of_ble_eq_true rfl⟩, hts (.instanceMethod yX0_hasNeighbour) (by decide +kernel), hts (.selects RX0 yX0_hasNeighbour yX0_hasNeighbour) (by decide +kernel)⟩ (hw_isS hj) hw_ad rfl hl.1 rfl (Nat.le_of_ble_eq_true rfl) dX1_highFloor_17 ⟨Nat.zero_le _, Nat.zero_le _⟩ (fun H locs T => ?_)
    refine lv_if_eq (tgt := 37) hx hb dX1_highFloor_20 (by decide) (fun c_20 => ?_) (fun c_20 => ?_)
    · skip
      refine lv_iinc (v := nI (i + 1)) (lv' := [(3, .int (nI (i + 1))), (0, .ref h), (1, .ref (ad j)), (2, .int x)]) hx hb dX1_highFloor_37 hl (k := 3) rfl (nI_1 i) (by decide) rfl (fun ls hl => ?_)
      refine lv_goto (tgt := 7) hx hb dX1_highFloor_40 (by decide) ?_
      rw [show sp_highFloor_loop S j (k + 1) i x = sp_highFloor_loop S j k (i + 1) x from by rw [sp_highFloor_loop]; simp only [if_pos c_20]]
      exact ih (i + 1) _ (by omega) _ _ _ T (lv_sub hl [1, 2, 3, 0] rfl)
    · skip
      refine lv_iload_n hx hb dX1_highFloor_23 rfl (lv_at hl 2 rfl) ?_
      refine lv_aload_n hx hb dX1_highFloor_24 rfl (lv_at hl 0 rfl) ?_
      refine va_get (D := D) (ci := 1) (v := .ref a) (C := RX1) (T := TX1) (N := 7) hx hb hts hinH hown hK T.1 0 rfl rfl 0 (by decide) (hts (.fieldLink RX1 11 "MoverHall" "sectors" "[LMoverHall$Sector;") (by decide +kernel)) (fun _ h9 => h9) rfl dX1_highFloor_25 ?_
      refine lv_iload_n hx hb dX1_highFloor_28 rfl (lv_at hl 3 rfl) ?_
      have h_29 : vp_in (nI i) 32 := vp_in_nI (show i < 32 by omega) (by decide)
      refine va_aldq hx hb hK T.1 1 0 rfl rfl h_29 dX1_highFloor_29 ?_
      refine W.eq (g2 := F0 m 30 ls [.ref (ad i), .int x]) (by rw [nI_clamp (show i < 2 ^ 31 by omega)] <;> rfl) ?_
      refine va_getN (D := D) (ci := 0) (v := .int (S i 6)) (C := RX0) (T := TX0) (N := 13) hx hb hts hinS hown hK T.1 (i + 2) (hw_at (show i < 32 by omega)) rfl 6 (by decide) (va_Nw.use rfl (hN (.fieldLinkNest RX1 90 "MoverHall$Sector" "floor" "I" "MoverHall") (by decide +kernel))) (fun _ h9 => h9) rfl dX1_highFloor_30 ?_
      refine va_mmax hx hb (by rw [hml, hl.1]) hown (hts (.methodLink RX1 124 Lib.Math.max.name) (by decide +kernel)) (hts (.static Lib.Math.max.name) (by decide +kernel)) (hts (.initialized "java/lang/Math") (by decide +kernel)) (hts (.code Lib.Math.max.name Lib.Math.max.code 2 (some .int)) (by decide +kernel)) (Nat.le_of_ble_eq_true rfl) (Nat.le_of_ble_eq_true rfl) (Nat.zero_le _) (Nat.zero_le _) dX1_highFloor_33 ?_
      refine W.eq (g2 := F0 m 36 ls [.int (sp_max x (S i 6))]) rfl ?_
      refine lv_istore_n (lv' := [(2, .int (sp_max x (S i 6))), (0, .ref h), (1, .ref (ad j)), (3, .int (nI i))]) hx hb dX1_highFloor_36 rfl hl (by decide) rfl (fun ls hl => ?_)
      refine lv_iinc (v := nI (i + 1)) (lv' := [(3, .int (nI (i + 1))), (2, .int (sp_max x (S i 6))), (0, .ref h), (1, .ref (ad j))]) hx hb dX1_highFloor_37 hl (k := 3) rfl (nI_1 i) (by decide) rfl (fun ls hl => ?_)
      refine lv_goto (tgt := 7) hx hb dX1_highFloor_40 (by decide) ?_
      rw [show sp_highFloor_loop S j (k + 1) i x = sp_highFloor_loop S j k (i + 1) (sp_max x (S i 6)) from by rw [sp_highFloor_loop]; simp only [if_neg c_20]]
      exact ih (i + 1) _ (by omega) _ _ _ T (lv_sub hl [2, 3, 1, 0] rfl)
/-- highFloor, its picture -/
def sp_highFloor (S : Nat → Nat → Int32) (n : Nat) (j : Nat) : Int32 := sp_highFloor_loop S j n 0 (S j 6)
set_option maxHeartbeats 4000000 in
set_option maxRecDepth 100000 in
theorem c_H_highFloor {j : Nat} (hj : j < 32) (hG : hg_n G n) : MI l D ((cA, .object RX0) :: tz) yX1_highFloor wsX1_highFloor { frames := 1, cells := 0, slots := 0, locals := 21 } [.ref h, .ref (ad j)] (hw_W h a ad cA G S) (sp_highFloor S n j) (hw_W h a ad cA G S) := by
  refine MI.start (cc := cX1_highFloor) (maxL := 4) (by decide) rfl (Nat.le_of_ble_eq_true rfl) (fun p e s m args below meth c A ls C T hl => ?_)
  have hx := C.1.1
  have hb := C.1.2.1
  have hml := C.1.2.2.1
  have hown : s.vm.findClass RX1 = some m.cls := C.1.2.2.2.1
  have hts := C.1.2.2.2.2
  have hK := C.2.2.2.1
  have hN := C.2.2.2.2.1
  have hinH : ∀ w ∈ wsX10, w ∈ wsX1_highFloor := by decide +kernel
  have hinS : ∀ w ∈ wsX00, w ∈ wsX1_highFloor := by decide +kernel
  have hn32 := hG.1
  have hl : lv_has ls 4 [(0, .ref h), (1, .ref (ad j))] := hl
  refine lv_aload_n hx hb dX1_highFloor_0 rfl (lv_at hl 1 rfl) ?_
  refine va_getN (D := D) (ci := 0) (v := .int (S j 6)) (C := RX0) (T := TX0) (N := 13) hx hb hts hinS hown hK T.1 (j + 2) (hw_at hj) rfl 6 (by decide) (va_Nw.use rfl (hN (.fieldLinkNest RX1 90 "MoverHall$Sector" "floor" "I" "MoverHall") (by decide +kernel))) (fun _ h9 => h9) rfl dX1_highFloor_1 ?_
  refine lv_istore_n (lv' := [(2, .int (S j 6)), (0, .ref h), (1, .ref (ad j))]) hx hb dX1_highFloor_4 rfl hl (by decide) rfl (fun ls hl => ?_)
  refine lv_iconst (v := 0) hx hb dX1_highFloor_5 (by decide) ?_
  refine lv_istore_n (lv' := [(3, .int 0), (2, .int (S j 6)), (0, .ref h), (1, .ref (ad j))]) hx hb dX1_highFloor_6 rfl hl (by decide) rfl (fun ls hl => ?_)
  rw [show sp_highFloor S n j = sp_highFloor_loop S j n 0 (S j 6) from by rfl]
  exact lp_highFloor hj hG C n 0 _ (by omega) _ _ _ T (lv_sub hl [2, 3, 1, 0] rfl)
/-- lowCeiling: its loop, by what is left to do -/
def sp_lowCeiling_loop (S : Nat → Nat → Int32) (j : Nat) : Nat → Nat → Int32 → Int32
  | 0, _, x => x
  | k + 1, i, x => if (sp_hasNeighbour S j (nI i)) = 0 then (sp_lowCeiling_loop S j k (i + 1) x) else (sp_lowCeiling_loop S j k (i + 1) (sp_min x (S i 7)))
set_option maxHeartbeats 4000000 in
set_option maxRecDepth 100000 in
theorem lp_lowCeiling {p : Program} {e : Env} {s : State} {m : MethodId} {args : Array Value} {below : List Frame} {meth : Method} {c : Code} {A : Nat → Prop} {j : Nat} (hj : j < 32) (hG : hg_n G n) (C : hw_C p s m args meth c cX1_lowCeiling (some .int) 4 wsX1_lowCeiling yX1_lowCeiling.cls D ((cA, .object RX0) :: tz) A) :
    ∀ (k i : Nat) (x : Int32), i + k = n → ∀ (ls : Array Slot) (H : Heap) (locs : List Loc), hw_T D A s.heap (hw_W h a ad cA G S) H locs → lv_has ls 4 [(0, .ref h), (1, .ref (ad j)), (2, .int x), (3, .int (nI i))] → W p l e { frames := 1, cells := 0, slots := 0, locals := 21 } s m args below meth c H locs 0 0 (MQ below (va_Qi (fun (r' : Int32) (_ : Unit) => r' = sp_lowCeiling_loop S j k i x) (fun _ t => va_P D vwCl (hw_W h a ad cA G S) t.heap) A) args s 0 0 A) (F0 m 18 ls []) := by
  have hx := C.1.1
  have hb := C.1.2.1
  have hml := C.1.2.2.1
  have hown : s.vm.findClass RX1 = some m.cls := C.1.2.2.2.1
  have hts := C.1.2.2.2.2
  have hK := C.2.2.2.1
  have hN := C.2.2.2.2.1
  have hinH : ∀ w ∈ wsX10, w ∈ wsX1_lowCeiling := by decide +kernel
  have hinS : ∀ w ∈ wsX00, w ∈ wsX1_lowCeiling := by decide +kernel
  have hn32 := hG.1
  intro k
  induction k with
  | zero =>
    intro i x hik ls H locs T hl
    refine lv_iload_n hx hb dX1_lowCeiling_18 rfl (lv_at hl 3 rfl) ?_
    refine lv_aload_n hx hb dX1_lowCeiling_19 rfl (lv_at hl 0 rfl) ?_
    refine va_get (D := D) (ci := 1) (v := .int (G 0)) (C := RX1) (T := TX1) (N := 7) hx hb hts hinH hown hK T.1 0 rfl rfl 1 (by decide) (hts (.fieldLink RX1 20 "MoverHall" "sectorCount" "I") (by decide +kernel)) (fun _ h9 => h9) rfl dX1_lowCeiling_20 ?_
    refine lv_icmp_ge (tgt := 54) hx hb dX1_lowCeiling_23 (by decide) (fun c_23 => ?_) (fun c_23 => absurd (show G 0 ≤ nI i by rw [hG.2]; exact nI_le (show n ≤ i by omega) (by omega)) c_23)
    refine lv_iload_n hx hb dX1_lowCeiling_54 rfl (lv_at hl 2 rfl) ?_
    have e9 : sp_lowCeiling_loop S j 0 i x = x := by rw [sp_lowCeiling_loop]
    exact hw_iret C T rfl e9.symm rfl dX1_lowCeiling_55
  | succ k ih =>
    intro i x hik ls H locs T hl
    refine lv_iload_n hx hb dX1_lowCeiling_18 rfl (lv_at hl 3 rfl) ?_
    refine lv_aload_n hx hb dX1_lowCeiling_19 rfl (lv_at hl 0 rfl) ?_
    refine va_get (D := D) (ci := 1) (v := .int (G 0)) (C := RX1) (T := TX1) (N := 7) hx hb hts hinH hown hK T.1 0 rfl rfl 1 (by decide) (hts (.fieldLink RX1 20 "MoverHall" "sectorCount" "I") (by decide +kernel)) (fun _ h9 => h9) rfl dX1_lowCeiling_20 ?_
    refine lv_icmp_ge (tgt := 54) hx hb dX1_lowCeiling_23 (by decide) (fun c_23 => absurd c_23 (show ¬ G 0 ≤ nI i by rw [hG.2]; exact nI_ge (show i < n by omega) (by omega))) (fun c_23 => ?_)
    refine lv_aload_n hx hb dX1_lowCeiling_26 rfl (lv_at hl 1 rfl) ?_
    refine lv_iload_n hx hb dX1_lowCeiling_27 rfl (lv_at hl 3 rfl) ?_
    refine hw_Ni (As := [.int (nI i)]) (rest := []) C T (c_S_hasNeighbour hj) ⟨va_cnB 1 hts gX1_lowCeiling_X0_hasNeighbour_n42 rfl rfl rfl (hN (.methodLinkNest RX1 42 yX0_hasNeighbour "MoverHall") (by decide +kernel)) (hts (.initialized RX0) (by decide +kernel)) (by decide +kernel) ⟨Nat.le_of_ble_eq_true rfl, Nat.le_of_ble_eq_true rfl⟩, hts (.instanceMethod yX0_hasNeighbour) (by decide +kernel), hts (.selects RX0 yX0_hasNeighbour yX0_hasNeighbour) (by decide +kernel)⟩ (hw_isS hj) hw_ad rfl hl.1 rfl (Nat.le_of_ble_eq_true rfl) dX1_lowCeiling_28 ⟨Nat.zero_le _, Nat.zero_le _⟩ (fun H locs T => ?_)
    refine lv_if_eq (tgt := 48) hx hb dX1_lowCeiling_31 (by decide) (fun c_31 => ?_) (fun c_31 => ?_)
    · skip
      refine lv_iinc (v := nI (i + 1)) (lv' := [(3, .int (nI (i + 1))), (0, .ref h), (1, .ref (ad j)), (2, .int x)]) hx hb dX1_lowCeiling_48 hl (k := 3) rfl (nI_1 i) (by decide) rfl (fun ls hl => ?_)
      refine lv_goto (tgt := 18) hx hb dX1_lowCeiling_51 (by decide) ?_
      rw [show sp_lowCeiling_loop S j (k + 1) i x = sp_lowCeiling_loop S j k (i + 1) x from by rw [sp_lowCeiling_loop]; simp only [if_pos c_31]]
      exact ih (i + 1) _ (by omega) _ _ _ T (lv_sub hl [1, 2, 3, 0] rfl)
    · skip
      refine lv_iload_n hx hb dX1_lowCeiling_34 rfl (lv_at hl 2 rfl) ?_
      refine lv_aload_n hx hb dX1_lowCeiling_35 rfl (lv_at hl 0 rfl) ?_
      refine va_get (D := D) (ci := 1) (v := .ref a) (C := RX1) (T := TX1) (N := 7) hx hb hts hinH hown hK T.1 0 rfl rfl 0 (by decide) (hts (.fieldLink RX1 11 "MoverHall" "sectors" "[LMoverHall$Sector;") (by decide +kernel)) (fun _ h9 => h9) rfl dX1_lowCeiling_36 ?_
      refine lv_iload_n hx hb dX1_lowCeiling_39 rfl (lv_at hl 3 rfl) ?_
      have h_40 : vp_in (nI i) 32 := vp_in_nI (show i < 32 by omega) (by decide)
      refine va_aldq hx hb hK T.1 1 0 rfl rfl h_40 dX1_lowCeiling_40 ?_
      refine W.eq (g2 := F0 m 41 ls [.ref (ad i), .int x]) (by rw [nI_clamp (show i < 2 ^ 31 by omega)] <;> rfl) ?_
      refine va_getN (D := D) (ci := 0) (v := .int (S i 7)) (C := RX0) (T := TX0) (N := 13) hx hb hts hinS hown hK T.1 (i + 2) (hw_at (show i < 32 by omega)) rfl 7 (by decide) (va_Nw.use rfl (hN (.fieldLinkNest RX1 93 "MoverHall$Sector" "ceiling" "I" "MoverHall") (by decide +kernel))) (fun _ h9 => h9) rfl dX1_lowCeiling_41 ?_
      refine va_mmin hx hb (by rw [hml, hl.1]) hown (hts (.methodLink RX1 118 Lib.Math.min.name) (by decide +kernel)) (hts (.static Lib.Math.min.name) (by decide +kernel)) (hts (.initialized "java/lang/Math") (by decide +kernel)) (hts (.code Lib.Math.min.name Lib.Math.min.code 2 (some .int)) (by decide +kernel)) (Nat.le_of_ble_eq_true rfl) (Nat.le_of_ble_eq_true rfl) (Nat.zero_le _) (Nat.zero_le _) dX1_lowCeiling_44 ?_
      refine W.eq (g2 := F0 m 47 ls [.int (sp_min x (S i 7))]) rfl ?_
      refine lv_istore_n (lv' := [(2, .int (sp_min x (S i 7))), (0, .ref h), (1, .ref (ad j)), (3, .int (nI i))]) hx hb dX1_lowCeiling_47 rfl hl (by decide) rfl (fun ls hl => ?_)
      refine lv_iinc (v := nI (i + 1)) (lv' := [(3, .int (nI (i + 1))), (2, .int (sp_min x (S i 7))), (0, .ref h), (1, .ref (ad j))]) hx hb dX1_lowCeiling_48 hl (k := 3) rfl (nI_1 i) (by decide) rfl (fun ls hl => ?_)
      refine lv_goto (tgt := 18) hx hb dX1_lowCeiling_51 (by decide) ?_
      rw [show sp_lowCeiling_loop S j (k + 1) i x = sp_lowCeiling_loop S j k (i + 1) (sp_min x (S i 7)) from by rw [sp_lowCeiling_loop]; simp only [if_neg c_31]]
      exact ih (i + 1) _ (by omega) _ _ _ T (lv_sub hl [2, 3, 1, 0] rfl)
/-- lowCeiling, its picture -/
def sp_lowCeiling (S : Nat → Nat → Int32) (n : Nat) (j : Nat) : Int32 := if (sp_hasNeighbours S j) = 0 then (S j 7) else (sp_lowCeiling_loop S j n 0 1024)
set_option maxHeartbeats 4000000 in
set_option maxRecDepth 100000 in
theorem c_H_lowCeiling {j : Nat} (hj : j < 32) (hG : hg_n G n) : MI l D ((cA, .object RX0) :: tz) yX1_lowCeiling wsX1_lowCeiling { frames := 1, cells := 0, slots := 0, locals := 21 } [.ref h, .ref (ad j)] (hw_W h a ad cA G S) (sp_lowCeiling S n j) (hw_W h a ad cA G S) := by
  refine MI.start (cc := cX1_lowCeiling) (maxL := 4) (by decide) rfl (Nat.le_of_ble_eq_true rfl) (fun p e s m args below meth c A ls C T hl => ?_)
  have hx := C.1.1
  have hb := C.1.2.1
  have hml := C.1.2.2.1
  have hown : s.vm.findClass RX1 = some m.cls := C.1.2.2.2.1
  have hts := C.1.2.2.2.2
  have hK := C.2.2.2.1
  have hN := C.2.2.2.2.1
  have hinH : ∀ w ∈ wsX10, w ∈ wsX1_lowCeiling := by decide +kernel
  have hinS : ∀ w ∈ wsX00, w ∈ wsX1_lowCeiling := by decide +kernel
  have hn32 := hG.1
  have hl : lv_has ls 4 [(0, .ref h), (1, .ref (ad j))] := hl
  refine lv_aload_n hx hb dX1_lowCeiling_0 rfl (lv_at hl 1 rfl) ?_
  refine hw_Ni (As := []) (rest := []) C T (c_S_hasNeighbours hj) ⟨va_cnB 0 hts gX1_lowCeiling_X0_hasNeighbours_n127 rfl rfl rfl (hN (.methodLinkNest RX1 127 yX0_hasNeighbours "MoverHall") (by decide +kernel)) (hts (.initialized RX0) (by decide +kernel)) (by decide +kernel) ⟨Nat.le_of_ble_eq_true rfl, Nat.le_of_ble_eq_true rfl⟩, hts (.instanceMethod yX0_hasNeighbours) (by decide +kernel), hts (.selects RX0 yX0_hasNeighbours yX0_hasNeighbours) (by decide +kernel)⟩ (hw_isS hj) hw_ad rfl hl.1 rfl (Nat.le_of_ble_eq_true rfl) dX1_lowCeiling_1 ⟨Nat.zero_le _, Nat.zero_le _⟩ (fun H locs T => ?_)
  refine lv_if_ne (tgt := 12) hx hb dX1_lowCeiling_4 (by decide) (fun c_4 => ?_) (fun c_4 => ?_)
  · skip
    refine lv_sipush (v := 1024) hx hb dX1_lowCeiling_12 (by decide) ?_
    refine lv_istore_n (lv' := [(2, .int 1024), (0, .ref h), (1, .ref (ad j))]) hx hb dX1_lowCeiling_15 rfl hl (by decide) rfl (fun ls hl => ?_)
    refine lv_iconst (v := 0) hx hb dX1_lowCeiling_16 (by decide) ?_
    refine lv_istore_n (lv' := [(3, .int 0), (2, .int 1024), (0, .ref h), (1, .ref (ad j))]) hx hb dX1_lowCeiling_17 rfl hl (by decide) rfl (fun ls hl => ?_)
    rw [show sp_lowCeiling S n j = sp_lowCeiling_loop S j n 0 1024 from by unfold sp_lowCeiling; simp only [if_neg c_4]]
    exact lp_lowCeiling hj hG C n 0 _ (by omega) _ _ _ T (lv_sub hl [2, 3, 1, 0] rfl)
  · skip
    refine lv_aload_n hx hb dX1_lowCeiling_7 rfl (lv_at hl 1 rfl) ?_
    refine va_getN (D := D) (ci := 0) (v := .int (S j 7)) (C := RX0) (T := TX0) (N := 13) hx hb hts hinS hown hK T.1 (j + 2) (hw_at hj) rfl 7 (by decide) (va_Nw.use rfl (hN (.fieldLinkNest RX1 93 "MoverHall$Sector" "ceiling" "I" "MoverHall") (by decide +kernel))) (fun _ h9 => h9) rfl dX1_lowCeiling_8 ?_
    have e9 : sp_lowCeiling S n j = S j 7 := by unfold sp_lowCeiling; simp only [if_pos c_4]
    exact hw_iret C T rfl e9.symm rfl dX1_lowCeiling_11
/-- endOfWay, its picture -/
def sp_endOfWay (S : Nat → Nat → Int32) (n : Nat) (j : Nat) (x2 : Int32) : Int32 := if x2 = 0 then (sp_max ((sp_lowCeiling S n j) - 4) (S j 7)) else (if x2 = 1 then (sp_lowFloor S n j) else (sp_min (sp_highFloor S n j) (S j 7)))
set_option maxHeartbeats 4000000 in
set_option maxRecDepth 100000 in
theorem c_H_endOfWay {j : Nat} {x2 : Int32} (hj : j < 32) (hG : hg_n G n) : MI l D ((cA, .object RX0) :: tz) yX1_endOfWay wsX1_endOfWay { frames := 2, cells := 0, slots := 0, locals := 44 } [.ref h, .ref (ad j), .int x2] (hw_W h a ad cA G S) (sp_endOfWay S n j x2) (hw_W h a ad cA G S) := by
  refine MI.start (cc := cX1_endOfWay) (maxL := 3) (by decide) rfl (Nat.le_of_ble_eq_true rfl) (fun p e s m args below meth c A ls C T hl => ?_)
  have hx := C.1.1
  have hb := C.1.2.1
  have hml := C.1.2.2.1
  have hown : s.vm.findClass RX1 = some m.cls := C.1.2.2.2.1
  have hts := C.1.2.2.2.2
  have hK := C.2.2.2.1
  have hN := C.2.2.2.2.1
  have hinS : ∀ w ∈ wsX00, w ∈ wsX1_endOfWay := by decide +kernel
  have hn32 := hG.1
  have hl : lv_has ls 3 [(0, .ref h), (1, .ref (ad j)), (2, .int x2)] := hl
  refine lv_iload_n hx hb dX1_endOfWay_0 rfl (lv_at hl 2 rfl) ?_
  by_cases c_1_0 : x2 = 0
  · skip
    refine lv_lookup (off := 27) (tgt := 28) hx hb dX1_endOfWay_1 (by decide) (by rw [c_1_0]; decide +kernel) (by decide) ?_
    refine lv_aload_n hx hb dX1_endOfWay_28 rfl (lv_at hl 0 rfl) ?_
    refine lv_aload_n hx hb dX1_endOfWay_29 rfl (lv_at hl 1 rfl) ?_
    refine hw_Vi (As := [.ref (ad j)]) (rest := []) C T (c_H_lowCeiling hj hG) (cwV 1 hts gX1_endOfWay_X1_lowCeiling rfl rfl rfl (by decide +kernel) ⟨Nat.le_of_ble_eq_true rfl, Nat.le_of_ble_eq_true rfl⟩) hw_isH hw_ad rfl hl.1 rfl (Nat.le_of_ble_eq_true rfl) dX1_endOfWay_30 ⟨Nat.zero_le _, Nat.zero_le _⟩ (fun H locs T => ?_)
    refine lv_iconst (v := 4) hx hb dX1_endOfWay_33 (by decide) ?_
    refine lv_isub hx hb dX1_endOfWay_34 ?_
    refine lv_aload_n hx hb dX1_endOfWay_35 rfl (lv_at hl 1 rfl) ?_
    refine va_getN (D := D) (ci := 0) (v := .int (S j 7)) (C := RX0) (T := TX0) (N := 13) hx hb hts hinS hown hK T.1 (j + 2) (hw_at hj) rfl 7 (by decide) (va_Nw.use rfl (hN (.fieldLinkNest RX1 93 "MoverHall$Sector" "ceiling" "I" "MoverHall") (by decide +kernel))) (fun _ h9 => h9) rfl dX1_endOfWay_36 ?_
    refine va_mmax hx hb (by rw [hml, hl.1]) hown (hts (.methodLink RX1 124 Lib.Math.max.name) (by decide +kernel)) (hts (.static Lib.Math.max.name) (by decide +kernel)) (hts (.initialized "java/lang/Math") (by decide +kernel)) (hts (.code Lib.Math.max.name Lib.Math.max.code 2 (some .int)) (by decide +kernel)) (Nat.le_of_ble_eq_true rfl) (Nat.le_of_ble_eq_true rfl) (Nat.zero_le _) (Nat.zero_le _) dX1_endOfWay_39 ?_
    refine W.eq (g2 := F0 m 42 ls [.int (sp_max ((sp_lowCeiling S n j) - 4) (S j 7))]) rfl ?_
    have e9 : sp_endOfWay S n j x2 = sp_max ((sp_lowCeiling S n j) - 4) (S j 7) := by unfold sp_endOfWay; simp only [if_pos c_1_0]
    exact hw_iret C T rfl e9.symm rfl dX1_endOfWay_42
  · skip
    by_cases c_1_1 : x2 = 1
    · skip
      refine lv_lookup (off := 42) (tgt := 43) hx hb dX1_endOfWay_1 (by decide) (by rw [c_1_1]; decide +kernel) (by decide) ?_
      refine lv_aload_n hx hb dX1_endOfWay_43 rfl (lv_at hl 0 rfl) ?_
      refine lv_aload_n hx hb dX1_endOfWay_44 rfl (lv_at hl 1 rfl) ?_
      refine hw_Vi (As := [.ref (ad j)]) (rest := []) C T (c_H_lowFloor hj hG) (cwV 1 hts gX1_endOfWay_X1_lowFloor rfl rfl rfl (by decide +kernel) ⟨Nat.le_of_ble_eq_true rfl, Nat.le_of_ble_eq_true rfl⟩) hw_isH hw_ad rfl hl.1 rfl (Nat.le_of_ble_eq_true rfl) dX1_endOfWay_45 ⟨Nat.zero_le _, Nat.zero_le _⟩ (fun H locs T => ?_)
      have e9 : sp_endOfWay S n j x2 = sp_lowFloor S n j := by unfold sp_endOfWay; simp only [if_neg c_1_0, if_pos c_1_1]
      exact hw_iret C T rfl e9.symm rfl dX1_endOfWay_48
    · skip
      refine lv_lookup (off := 48) (tgt := 49) hx hb dX1_endOfWay_1 (by decide) (by show Op.lookupswitch.offset [(0, 27), (1, 42)] 48 _ = _; rw [lv_osw c_1_0 (by decide), lv_osw c_1_1 (by decide)]; rfl) (by decide) ?_
      refine lv_aload_n hx hb dX1_endOfWay_49 rfl (lv_at hl 0 rfl) ?_
      refine lv_aload_n hx hb dX1_endOfWay_50 rfl (lv_at hl 1 rfl) ?_
      refine hw_Vi (As := [.ref (ad j)]) (rest := []) C T (c_H_highFloor hj hG) (cwV 1 hts gX1_endOfWay_X1_highFloor rfl rfl rfl (by decide +kernel) ⟨Nat.le_of_ble_eq_true rfl, Nat.le_of_ble_eq_true rfl⟩) hw_isH hw_ad rfl hl.1 rfl (Nat.le_of_ble_eq_true rfl) dX1_endOfWay_51 ⟨Nat.zero_le _, Nat.zero_le _⟩ (fun H locs T => ?_)
      refine lv_aload_n hx hb dX1_endOfWay_54 rfl (lv_at hl 1 rfl) ?_
      refine va_getN (D := D) (ci := 0) (v := .int (S j 7)) (C := RX0) (T := TX0) (N := 13) hx hb hts hinS hown hK T.1 (j + 2) (hw_at hj) rfl 7 (by decide) (va_Nw.use rfl (hN (.fieldLinkNest RX1 93 "MoverHall$Sector" "ceiling" "I" "MoverHall") (by decide +kernel))) (fun _ h9 => h9) rfl dX1_endOfWay_55 ?_
      refine va_mmin hx hb (by rw [hml, hl.1]) hown (hts (.methodLink RX1 118 Lib.Math.min.name) (by decide +kernel)) (hts (.static Lib.Math.min.name) (by decide +kernel)) (hts (.initialized "java/lang/Math") (by decide +kernel)) (hts (.code Lib.Math.min.name Lib.Math.min.code 2 (some .int)) (by decide +kernel)) (Nat.le_of_ble_eq_true rfl) (Nat.le_of_ble_eq_true rfl) (Nat.zero_le _) (Nat.zero_le _) dX1_endOfWay_58 ?_
      refine W.eq (g2 := F0 m 61 ls [.int (sp_min (sp_highFloor S n j) (S j 7))]) rfl ?_
      have e9 : sp_endOfWay S n j x2 = sp_min (sp_highFloor S n j) (S j 7) := by unfold sp_endOfWay; simp only [if_neg c_1_0, if_neg c_1_1]
      exact hw_iret C T rfl e9.symm rfl dX1_endOfWay_61
end
end
section
section
variable {l : Launch} {D : va_G} {h a : Nat} {ad : Nat → Nat} {cA : ClassId} {tz : List (ClassId × FieldType)} {G : Nat → Int32} {S : Nat → Nat → Int32} {n : Nat}
/-- start, its picture -/
def sp_start (G : Nat → Int32) (S : Nat → Nat → Int32) (n : Nat) (j : Nat) (x2 : Int32) : (Nat → Int32) × (Nat → Nat → Int32) := if x2 = 1 then (upd G 3 ((G 3) + 1), sp_go (up2 (up2 (up2 S j 8 x2) j 12 ((up2 S j 8 x2) j 6)) j 11 (sp_endOfWay (up2 (up2 S j 8 x2) j 12 ((up2 S j 8 x2) j 6)) n j x2)) j (-1)) else (upd G 3 ((G 3) + 1), sp_go (up2 (up2 (up2 S j 8 x2) j 12 ((up2 S j 8 x2) j 6)) j 11 (sp_endOfWay (up2 (up2 S j 8 x2) j 12 ((up2 S j 8 x2) j 6)) n j x2)) j 1)
theorem sp_start_0 {G : Nat → Int32} {S : Nat → Nat → Int32} {n : Nat} {j : Nat} {x2 : Int32} : (sp_start G S n j x2).1 0 = G 0 := by
  unfold sp_start
  repeat' split
  all_goals rfl
set_option maxHeartbeats 4000000 in
set_option maxRecDepth 100000 in
theorem c_H_start {j : Nat} {x2 : Int32} (hj : j < 32) (hG : hg_n G n) : MV l D ((cA, .object RX0) :: tz) yX1_start wsX1_start { frames := 3, cells := 0, slots := 0, locals := 66 } [.ref h, .ref (ad j), .int x2] (hw_W h a ad cA G S) (hw_W h a ad cA (sp_start G S n j x2).1 (sp_start G S n j x2).2) := by
  refine MV.start (cc := cX1_start) (maxL := 3) (by decide) rfl (Nat.le_of_ble_eq_true rfl) (fun p e s m args below meth c A ls C T hl => ?_)
  have hx := C.1.1
  have hb := C.1.2.1
  have hml := C.1.2.2.1
  have hown : s.vm.findClass RX1 = some m.cls := C.1.2.2.2.1
  have hts := C.1.2.2.2.2
  have hK := C.2.2.2.1
  have hN := C.2.2.2.2.1
  have hinH : ∀ w ∈ wsX10, w ∈ wsX1_start := by decide +kernel
  have hinS : ∀ w ∈ wsX00, w ∈ wsX1_start := by decide +kernel
  have hn32 := hG.1
  have hl : lv_has ls 3 [(0, .ref h), (1, .ref (ad j)), (2, .int x2)] := hl
  refine lv_aload_n hx hb dX1_start_0 rfl (lv_at hl 1 rfl) ?_
  refine lv_iload_n hx hb dX1_start_1 rfl (lv_at hl 2 rfl) ?_
  refine va_putN (D := D) (ci := 0) (v := .int x2) (ty := .int) (C := RX0) (T := TX0) (N := 13) hx hb hts hinS tyX0 tyX0_ok nmX0 hown hK T.1 T.2.1 T.2.2 (j + 2) (hw_at hj) rfl 8 (by decide) (va_Nw.use rfl (hN (.fieldLinkNest RX1 67 "MoverHall$Sector" "mover" "I" "MoverHall") (by decide +kernel))) (fun _ h9 => h9) rfl (by decide +kernel) rfl rfl (Nat.le_of_ble_eq_true rfl) dX1_start_2 (fun H locs hP hD hS => ?_)
  have T := hw_setS (k := 8) (v := x2) hj rfl ⟨hP, hD, hS⟩
  refine lv_aload_n hx hb dX1_start_5 rfl (lv_at hl 1 rfl) ?_
  refine lv_aload_n hx hb dX1_start_6 rfl (lv_at hl 1 rfl) ?_
  refine va_getN (D := D) (ci := 0) (v := .int ((up2 S j 8 x2) j 6)) (C := RX0) (T := TX0) (N := 13) hx hb hts hinS hown hK T.1 (j + 2) (hw_at hj) rfl 6 (by decide) (va_Nw.use rfl (hN (.fieldLinkNest RX1 90 "MoverHall$Sector" "floor" "I" "MoverHall") (by decide +kernel))) (fun _ h9 => h9) rfl dX1_start_7 ?_
  refine va_putN (D := D) (ci := 0) (v := .int ((up2 S j 8 x2) j 6)) (ty := .int) (C := RX0) (T := TX0) (N := 13) hx hb hts hinS tyX0 tyX0_ok nmX0 hown hK T.1 T.2.1 T.2.2 (j + 2) (hw_at hj) rfl 12 (by decide) (va_Nw.use rfl (hN (.fieldLinkNest RX1 137 "MoverHall$Sector" "startFloor" "I" "MoverHall") (by decide +kernel))) (fun _ h9 => h9) rfl (by decide +kernel) rfl rfl (Nat.le_of_ble_eq_true rfl) dX1_start_10 (fun H locs hP hD hS => ?_)
  have T := hw_setS (k := 12) (v := (up2 S j 8 x2) j 6) hj rfl ⟨hP, hD, hS⟩
  refine lv_aload_n hx hb dX1_start_13 rfl (lv_at hl 1 rfl) ?_
  refine lv_aload_n hx hb dX1_start_14 rfl (lv_at hl 0 rfl) ?_
  refine lv_aload_n hx hb dX1_start_15 rfl (lv_at hl 1 rfl) ?_
  refine lv_iload_n hx hb dX1_start_16 rfl (lv_at hl 2 rfl) ?_
  refine hw_Vi (As := [.ref (ad j), .int x2]) (rest := [.ref (ad j)]) C T (c_H_endOfWay hj hG) (cwV 2 hts gX1_start_X1_endOfWay rfl rfl rfl (by decide +kernel) ⟨Nat.le_of_ble_eq_true rfl, Nat.le_of_ble_eq_true rfl⟩) hw_isH hw_ad rfl hl.1 rfl (Nat.le_of_ble_eq_true rfl) dX1_start_17 ⟨Nat.zero_le _, Nat.zero_le _⟩ (fun H locs T => ?_)
  refine va_putN (D := D) (ci := 0) (v := .int (sp_endOfWay (up2 (up2 S j 8 x2) j 12 ((up2 S j 8 x2) j 6)) n j x2)) (ty := .int) (C := RX0) (T := TX0) (N := 13) hx hb hts hinS tyX0 tyX0_ok nmX0 hown hK T.1 T.2.1 T.2.2 (j + 2) (hw_at hj) rfl 11 (by decide) (va_Nw.use rfl (hN (.fieldLinkNest RX1 112 "MoverHall$Sector" "wayEnd" "I" "MoverHall") (by decide +kernel))) (fun _ h9 => h9) rfl (by decide +kernel) rfl rfl (Nat.le_of_ble_eq_true rfl) dX1_start_20 (fun H locs hP hD hS => ?_)
  have T := hw_setS (k := 11) (v := sp_endOfWay (up2 (up2 S j 8 x2) j 12 ((up2 S j 8 x2) j 6)) n j x2) hj rfl ⟨hP, hD, hS⟩
  refine lv_aload_n hx hb dX1_start_23 rfl (lv_at hl 1 rfl) ?_
  refine lv_iload_n hx hb dX1_start_24 rfl (lv_at hl 2 rfl) ?_
  refine lv_iconst (v := 1) hx hb dX1_start_25 (by decide) ?_
  refine lv_icmp_ne (tgt := 33) hx hb dX1_start_26 (by decide) (fun c_26 => ?_) (fun c_26 => ?_)
  · skip
    refine lv_iconst (v := 1) hx hb dX1_start_33 (by decide) ?_
    refine hw_Nv (As := [.int 1]) (rest := []) C T (c_S_go hj) ⟨va_cnB 1 hts gX1_start_X0_go_n77 rfl rfl rfl (hN (.methodLinkNest RX1 77 yX0_go "MoverHall") (by decide +kernel)) (hts (.initialized RX0) (by decide +kernel)) (by decide +kernel) ⟨Nat.le_of_ble_eq_true rfl, Nat.le_of_ble_eq_true rfl⟩, hts (.instanceMethod yX0_go) (by decide +kernel), hts (.selects RX0 yX0_go yX0_go) (by decide +kernel)⟩ (hw_isS hj) hw_ad rfl hl.1 rfl (Nat.le_of_ble_eq_true rfl) dX1_start_34 ⟨Nat.zero_le _, Nat.zero_le _⟩ (fun H locs T => ?_)
    refine lv_aload_n hx hb dX1_start_37 rfl (lv_at hl 0 rfl) ?_
    refine lv_dup hx hb dX1_start_38 rfl ?_
    refine va_get (D := D) (ci := 1) (v := .int (G 3)) (C := RX1) (T := TX1) (N := 7) hx hb hts hinH hown hK T.1 0 rfl rfl 4 (by decide) (hts (.fieldLink RX1 58 "MoverHall" "moverCount" "I") (by decide +kernel)) (fun _ h9 => h9) rfl dX1_start_39 ?_
    refine lv_iconst (v := 1) hx hb dX1_start_42 (by decide) ?_
    refine lv_iadd hx hb dX1_start_43 ?_
    refine va_put (D := D) (ci := 1) (v := .int ((G 3) + 1)) (ty := .int) (C := RX1) (T := TX1) (N := 7) hx hb hts hinH tyX1 tyX1_ok nmX1 hown hK T.1 T.2.1 T.2.2 0 rfl rfl 4 (by decide) (hts (.fieldLink RX1 58 "MoverHall" "moverCount" "I") (by decide +kernel)) (fun _ h9 => h9) rfl (by decide +kernel) rfl rfl (Nat.le_of_ble_eq_true rfl) dX1_start_44 (fun H locs hP hD hS => ?_)
    have T := hw_setH (k := 3) (v := (G 3) + 1) rfl ⟨hP, hD, hS⟩
    have e9 : sp_start G S n j x2 = (upd G 3 ((G 3) + 1), sp_go (up2 (up2 (up2 S j 8 x2) j 12 ((up2 S j 8 x2) j 6)) j 11 (sp_endOfWay (up2 (up2 S j 8 x2) j 12 ((up2 S j 8 x2) j 6)) n j x2)) j 1) := by unfold sp_start; simp only [if_neg c_26]
    exact hw_vret C T (by rw [e9]) dX1_start_47
  · skip
    refine lv_iconst (v := (-1)) hx hb dX1_start_29 (by decide) ?_
    refine lv_goto (tgt := 34) hx hb dX1_start_30 (by decide) ?_
    refine hw_Nv (As := [.int (-1)]) (rest := []) C T (c_S_go hj) ⟨va_cnB 1 hts gX1_start_X0_go_n77 rfl rfl rfl (hN (.methodLinkNest RX1 77 yX0_go "MoverHall") (by decide +kernel)) (hts (.initialized RX0) (by decide +kernel)) (by decide +kernel) ⟨Nat.le_of_ble_eq_true rfl, Nat.le_of_ble_eq_true rfl⟩, hts (.instanceMethod yX0_go) (by decide +kernel), hts (.selects RX0 yX0_go yX0_go) (by decide +kernel)⟩ (hw_isS hj) hw_ad rfl hl.1 rfl (Nat.le_of_ble_eq_true rfl) dX1_start_34 ⟨Nat.zero_le _, Nat.zero_le _⟩ (fun H locs T => ?_)
    refine lv_aload_n hx hb dX1_start_37 rfl (lv_at hl 0 rfl) ?_
    refine lv_dup hx hb dX1_start_38 rfl ?_
    refine va_get (D := D) (ci := 1) (v := .int (G 3)) (C := RX1) (T := TX1) (N := 7) hx hb hts hinH hown hK T.1 0 rfl rfl 4 (by decide) (hts (.fieldLink RX1 58 "MoverHall" "moverCount" "I") (by decide +kernel)) (fun _ h9 => h9) rfl dX1_start_39 ?_
    refine lv_iconst (v := 1) hx hb dX1_start_42 (by decide) ?_
    refine lv_iadd hx hb dX1_start_43 ?_
    refine va_put (D := D) (ci := 1) (v := .int ((G 3) + 1)) (ty := .int) (C := RX1) (T := TX1) (N := 7) hx hb hts hinH tyX1 tyX1_ok nmX1 hown hK T.1 T.2.1 T.2.2 0 rfl rfl 4 (by decide) (hts (.fieldLink RX1 58 "MoverHall" "moverCount" "I") (by decide +kernel)) (fun _ h9 => h9) rfl (by decide +kernel) rfl rfl (Nat.le_of_ble_eq_true rfl) dX1_start_44 (fun H locs hP hD hS => ?_)
    have T := hw_setH (k := 3) (v := (G 3) + 1) rfl ⟨hP, hD, hS⟩
    have e9 : sp_start G S n j x2 = (upd G 3 ((G 3) + 1), sp_go (up2 (up2 (up2 S j 8 x2) j 12 ((up2 S j 8 x2) j 6)) j 11 (sp_endOfWay (up2 (up2 S j 8 x2) j 12 ((up2 S j 8 x2) j 6)) n j x2)) j (-1)) := by unfold sp_start; simp only [if_pos c_26]
    exact hw_vret C T (by rw [e9]) dX1_start_47
/-- finish, its picture -/
def sp_finish (G : Nat → Int32) (S : Nat → Nat → Int32) (j : Nat) : (Nat → Int32) × (Nat → Nat → Int32) := (upd G 3 ((G 3) - 1), sp_dropMover S j)
theorem sp_finish_0 {G : Nat → Int32} {S : Nat → Nat → Int32} {j : Nat} : (sp_finish G S j).1 0 = G 0 := by
  rfl
set_option maxHeartbeats 4000000 in
set_option maxRecDepth 100000 in
theorem c_H_finish {j : Nat} (hj : j < 32) : MV l D ((cA, .object RX0) :: tz) yX1_finish wsX1_finish { frames := 2, cells := 0, slots := 0, locals := 41 } [.ref h, .ref (ad j)] (hw_W h a ad cA G S) (hw_W h a ad cA (sp_finish G S j).1 (sp_finish G S j).2) := by
  refine MV.start (cc := cX1_finish) (maxL := 2) (by decide) rfl (Nat.le_of_ble_eq_true rfl) (fun p e s m args below meth c A ls C T hl => ?_)
  have hx := C.1.1
  have hb := C.1.2.1
  have hml := C.1.2.2.1
  have hown : s.vm.findClass RX1 = some m.cls := C.1.2.2.2.1
  have hts := C.1.2.2.2.2
  have hK := C.2.2.2.1
  have hN := C.2.2.2.2.1
  have hinH : ∀ w ∈ wsX10, w ∈ wsX1_finish := by decide +kernel
  have hl : lv_has ls 2 [(0, .ref h), (1, .ref (ad j))] := hl
  refine lv_aload_n hx hb dX1_finish_0 rfl (lv_at hl 1 rfl) ?_
  refine hw_Nv (As := []) (rest := []) C T (c_S_dropMover hj) ⟨va_cnB 0 hts gX1_finish_X0_dropMover_n144 rfl rfl rfl (hN (.methodLinkNest RX1 144 yX0_dropMover "MoverHall") (by decide +kernel)) (hts (.initialized RX0) (by decide +kernel)) (by decide +kernel) ⟨Nat.le_of_ble_eq_true rfl, Nat.le_of_ble_eq_true rfl⟩, hts (.instanceMethod yX0_dropMover) (by decide +kernel), hts (.selects RX0 yX0_dropMover yX0_dropMover) (by decide +kernel)⟩ (hw_isS hj) hw_ad rfl hl.1 rfl (Nat.le_of_ble_eq_true rfl) dX1_finish_1 ⟨Nat.zero_le _, Nat.zero_le _⟩ (fun H locs T => ?_)
  refine lv_aload_n hx hb dX1_finish_4 rfl (lv_at hl 0 rfl) ?_
  refine lv_dup hx hb dX1_finish_5 rfl ?_
  refine va_get (D := D) (ci := 1) (v := .int (G 3)) (C := RX1) (T := TX1) (N := 7) hx hb hts hinH hown hK T.1 0 rfl rfl 4 (by decide) (hts (.fieldLink RX1 58 "MoverHall" "moverCount" "I") (by decide +kernel)) (fun _ h9 => h9) rfl dX1_finish_6 ?_
  refine lv_iconst (v := 1) hx hb dX1_finish_9 (by decide) ?_
  refine lv_isub hx hb dX1_finish_10 ?_
  refine va_put (D := D) (ci := 1) (v := .int ((G 3) - 1)) (ty := .int) (C := RX1) (T := TX1) (N := 7) hx hb hts hinH tyX1 tyX1_ok nmX1 hown hK T.1 T.2.1 T.2.2 0 rfl rfl 4 (by decide) (hts (.fieldLink RX1 58 "MoverHall" "moverCount" "I") (by decide +kernel)) (fun _ h9 => h9) rfl (by decide +kernel) rfl rfl (Nat.le_of_ble_eq_true rfl) dX1_finish_11 (fun H locs hP hD hS => ?_)
  have T := hw_setH (k := 3) (v := (G 3) - 1) rfl ⟨hP, hD, hS⟩
  have e9 : sp_finish G S j = (upd G 3 ((G 3) - 1), sp_dropMover S j) := by rfl
  exact hw_vret C T (by rw [e9]) dX1_finish_14
/-- raiseFloor, its picture -/
def sp_raiseFloor (G : Nat → Int32) (S : Nat → Nat → Int32) (j : Nat) (x2 : Int32) (x3 : Int32) (x4 : Int32) : (Nat → Int32) × (Nat → Nat → Int32) := if x4 = 0 then (if (sp_min ((S j 6) + x2) x3) = x3 then ((sp_finish G (up2 S j 6 (sp_min ((S j 6) + x2) x3)) j).1, (sp_finish G (up2 S j 6 (sp_min ((S j 6) + x2) x3)) j).2) else (G, up2 S j 6 (sp_min ((S j 6) + x2) x3))) else (if 56 ≤ ((S j 7) - (sp_min ((S j 6) + x2) x3)) then (if (sp_min ((S j 6) + x2) x3) = x3 then ((sp_finish G (up2 S j 6 (sp_min ((S j 6) + x2) x3)) j).1, (sp_finish G (up2 S j 6 (sp_min ((S j 6) + x2) x3)) j).2) else (G, up2 S j 6 (sp_min ((S j 6) + x2) x3))) else (upd G 4 ((G 4) + 1), S))
theorem sp_raiseFloor_0 {G : Nat → Int32} {S : Nat → Nat → Int32} {j : Nat} {x2 : Int32} {x3 : Int32} {x4 : Int32} : (sp_raiseFloor G S j x2 x3 x4).1 0 = G 0 := by
  unfold sp_raiseFloor
  repeat' split
  all_goals first | rfl | exact sp_finish_0
set_option maxHeartbeats 4000000 in
set_option maxRecDepth 100000 in
theorem c_H_raiseFloor {j : Nat} {x2 : Int32} {x3 : Int32} {x4 : Int32} (hj : j < 32) : MV l D ((cA, .object RX0) :: tz) yX1_raiseFloor wsX1_raiseFloor { frames := 3, cells := 0, slots := 0, locals := 62 } [.ref h, .ref (ad j), .int x2, .int x3, .int x4] (hw_W h a ad cA G S) (hw_W h a ad cA (sp_raiseFloor G S j x2 x3 x4).1 (sp_raiseFloor G S j x2 x3 x4).2) := by
  refine MV.start (cc := cX1_raiseFloor) (maxL := 6) (by decide) rfl (Nat.le_of_ble_eq_true rfl) (fun p e s m args below meth c A ls C T hl => ?_)
  have hx := C.1.1
  have hb := C.1.2.1
  have hml := C.1.2.2.1
  have hown : s.vm.findClass RX1 = some m.cls := C.1.2.2.2.1
  have hts := C.1.2.2.2.2
  have hK := C.2.2.2.1
  have hN := C.2.2.2.2.1
  have hinH : ∀ w ∈ wsX10, w ∈ wsX1_raiseFloor := by decide +kernel
  have hinS : ∀ w ∈ wsX00, w ∈ wsX1_raiseFloor := by decide +kernel
  have hl : lv_has ls 6 [(0, .ref h), (1, .ref (ad j)), (2, .int x2), (3, .int x3), (4, .int x4)] := hl
  refine lv_aload_n hx hb dX1_raiseFloor_0 rfl (lv_at hl 1 rfl) ?_
  refine va_getN (D := D) (ci := 0) (v := .int (S j 6)) (C := RX0) (T := TX0) (N := 13) hx hb hts hinS hown hK T.1 (j + 2) (hw_at hj) rfl 6 (by decide) (va_Nw.use rfl (hN (.fieldLinkNest RX1 90 "MoverHall$Sector" "floor" "I" "MoverHall") (by decide +kernel))) (fun _ h9 => h9) rfl dX1_raiseFloor_1 ?_
  refine lv_iload_n hx hb dX1_raiseFloor_4 rfl (lv_at hl 2 rfl) ?_
  refine lv_iadd hx hb dX1_raiseFloor_5 ?_
  refine lv_iload_n hx hb dX1_raiseFloor_6 rfl (lv_at hl 3 rfl) ?_
  refine va_mmin hx hb (by rw [hml, hl.1]) hown (hts (.methodLink RX1 118 Lib.Math.min.name) (by decide +kernel)) (hts (.static Lib.Math.min.name) (by decide +kernel)) (hts (.initialized "java/lang/Math") (by decide +kernel)) (hts (.code Lib.Math.min.name Lib.Math.min.code 2 (some .int)) (by decide +kernel)) (Nat.le_of_ble_eq_true rfl) (Nat.le_of_ble_eq_true rfl) (Nat.zero_le _) (Nat.zero_le _) dX1_raiseFloor_7 ?_
  refine W.eq (g2 := F0 m 10 ls [.int (sp_min ((S j 6) + x2) x3)]) rfl ?_
  refine lv_istore (lv' := [(5, .int (sp_min ((S j 6) + x2) x3)), (0, .ref h), (1, .ref (ad j)), (2, .int x2), (3, .int x3), (4, .int x4)]) hx hb dX1_raiseFloor_10 hl (by decide) rfl (fun ls hl => ?_)
  refine lv_iload hx hb dX1_raiseFloor_12 (lv_at hl 5 rfl) ?_
  refine lv_if_eq (tgt := 40) hx hb dX1_raiseFloor_14 (by decide) (fun c_14 => ?_) (fun c_14 => ?_)
  · skip
    refine lv_aload_n hx hb dX1_raiseFloor_40 rfl (lv_at hl 2 rfl) ?_
    refine lv_iload hx hb dX1_raiseFloor_41 (lv_at hl 0 rfl) ?_
    refine va_putN (D := D) (ci := 0) (v := .int (sp_min ((S j 6) + x2) x3)) (ty := .int) (C := RX0) (T := TX0) (N := 13) hx hb hts hinS tyX0 tyX0_ok nmX0 hown hK T.1 T.2.1 T.2.2 (j + 2) (hw_at hj) rfl 6 (by decide) (va_Nw.use rfl (hN (.fieldLinkNest RX1 90 "MoverHall$Sector" "floor" "I" "MoverHall") (by decide +kernel))) (fun _ h9 => h9) rfl (by decide +kernel) rfl rfl (Nat.le_of_ble_eq_true rfl) dX1_raiseFloor_43 (fun H locs hP hD hS => ?_)
    have T := hw_setS (k := 6) (v := sp_min ((S j 6) + x2) x3) hj rfl ⟨hP, hD, hS⟩
    refine lv_iload hx hb dX1_raiseFloor_46 (lv_at hl 0 rfl) ?_
    refine lv_iload_n hx hb dX1_raiseFloor_48 rfl (lv_at hl 4 rfl) ?_
    refine lv_icmp_ne (tgt := 57) hx hb dX1_raiseFloor_49 (by decide) (fun c_49 => ?_) (fun c_49 => ?_)
    · skip
      have e9 : sp_raiseFloor G S j x2 x3 x4 = (G, up2 S j 6 (sp_min ((S j 6) + x2) x3)) := by unfold sp_raiseFloor; simp only [if_pos c_14, if_neg c_49]
      exact hw_vret C T (by rw [e9]) dX1_raiseFloor_57
    · skip
      refine lv_aload_n hx hb dX1_raiseFloor_52 rfl (lv_at hl 1 rfl) ?_
      refine lv_aload_n hx hb dX1_raiseFloor_53 rfl (lv_at hl 2 rfl) ?_
      refine hw_Vv (As := [.ref (ad j)]) (rest := []) C T (c_H_finish hj) (cwV 1 hts gX1_raiseFloor_X1_finish rfl rfl rfl (by decide +kernel) ⟨Nat.le_of_ble_eq_true rfl, Nat.le_of_ble_eq_true rfl⟩) hw_isH hw_ad rfl hl.1 rfl (Nat.le_of_ble_eq_true rfl) dX1_raiseFloor_54 ⟨Nat.zero_le _, Nat.zero_le _⟩ (fun H locs T => ?_)
      have e9 : sp_raiseFloor G S j x2 x3 x4 = ((sp_finish G (up2 S j 6 (sp_min ((S j 6) + x2) x3)) j).1, (sp_finish G (up2 S j 6 (sp_min ((S j 6) + x2) x3)) j).2) := by unfold sp_raiseFloor; simp only [if_pos c_14, if_pos c_49]
      exact hw_vret C T (by rw [e9]) dX1_raiseFloor_57
  · skip
    refine lv_aload_n hx hb dX1_raiseFloor_17 rfl (lv_at hl 2 rfl) ?_
    refine va_getN (D := D) (ci := 0) (v := .int (S j 7)) (C := RX0) (T := TX0) (N := 13) hx hb hts hinS hown hK T.1 (j + 2) (hw_at hj) rfl 7 (by decide) (va_Nw.use rfl (hN (.fieldLinkNest RX1 93 "MoverHall$Sector" "ceiling" "I" "MoverHall") (by decide +kernel))) (fun _ h9 => h9) rfl dX1_raiseFloor_18 ?_
    refine lv_iload hx hb dX1_raiseFloor_21 (lv_at hl 0 rfl) ?_
    refine lv_isub hx hb dX1_raiseFloor_23 ?_
    refine lv_bipush (v := 56) hx hb dX1_raiseFloor_24 (by decide) ?_
    refine lv_icmp_ge (tgt := 40) hx hb dX1_raiseFloor_26 (by decide) (fun c_26 => ?_) (fun c_26 => ?_)
    · skip
      refine lv_aload_n hx hb dX1_raiseFloor_40 rfl (lv_at hl 2 rfl) ?_
      refine lv_iload hx hb dX1_raiseFloor_41 (lv_at hl 0 rfl) ?_
      refine va_putN (D := D) (ci := 0) (v := .int (sp_min ((S j 6) + x2) x3)) (ty := .int) (C := RX0) (T := TX0) (N := 13) hx hb hts hinS tyX0 tyX0_ok nmX0 hown hK T.1 T.2.1 T.2.2 (j + 2) (hw_at hj) rfl 6 (by decide) (va_Nw.use rfl (hN (.fieldLinkNest RX1 90 "MoverHall$Sector" "floor" "I" "MoverHall") (by decide +kernel))) (fun _ h9 => h9) rfl (by decide +kernel) rfl rfl (Nat.le_of_ble_eq_true rfl) dX1_raiseFloor_43 (fun H locs hP hD hS => ?_)
      have T := hw_setS (k := 6) (v := sp_min ((S j 6) + x2) x3) hj rfl ⟨hP, hD, hS⟩
      refine lv_iload hx hb dX1_raiseFloor_46 (lv_at hl 0 rfl) ?_
      refine lv_iload_n hx hb dX1_raiseFloor_48 rfl (lv_at hl 4 rfl) ?_
      refine lv_icmp_ne (tgt := 57) hx hb dX1_raiseFloor_49 (by decide) (fun c_49 => ?_) (fun c_49 => ?_)
      · skip
        have e9 : sp_raiseFloor G S j x2 x3 x4 = (G, up2 S j 6 (sp_min ((S j 6) + x2) x3)) := by unfold sp_raiseFloor; simp only [if_neg c_14, if_pos c_26, if_neg c_49]
        exact hw_vret C T (by rw [e9]) dX1_raiseFloor_57
      · skip
        refine lv_aload_n hx hb dX1_raiseFloor_52 rfl (lv_at hl 1 rfl) ?_
        refine lv_aload_n hx hb dX1_raiseFloor_53 rfl (lv_at hl 2 rfl) ?_
        refine hw_Vv (As := [.ref (ad j)]) (rest := []) C T (c_H_finish hj) (cwV 1 hts gX1_raiseFloor_X1_finish rfl rfl rfl (by decide +kernel) ⟨Nat.le_of_ble_eq_true rfl, Nat.le_of_ble_eq_true rfl⟩) hw_isH hw_ad rfl hl.1 rfl (Nat.le_of_ble_eq_true rfl) dX1_raiseFloor_54 ⟨Nat.zero_le _, Nat.zero_le _⟩ (fun H locs T => ?_)
        have e9 : sp_raiseFloor G S j x2 x3 x4 = ((sp_finish G (up2 S j 6 (sp_min ((S j 6) + x2) x3)) j).1, (sp_finish G (up2 S j 6 (sp_min ((S j 6) + x2) x3)) j).2) := by unfold sp_raiseFloor; simp only [if_neg c_14, if_pos c_26, if_pos c_49]
        exact hw_vret C T (by rw [e9]) dX1_raiseFloor_57
    · skip
      refine lv_aload_n hx hb dX1_raiseFloor_29 rfl (lv_at hl 1 rfl) ?_
      refine lv_dup hx hb dX1_raiseFloor_30 rfl ?_
      refine va_get (D := D) (ci := 1) (v := .int (G 4)) (C := RX1) (T := TX1) (N := 7) hx hb hts hinH hown hK T.1 0 rfl rfl 5 (by decide) (hts (.fieldLink RX1 61 "MoverHall" "blockedCount" "I") (by decide +kernel)) (fun _ h9 => h9) rfl dX1_raiseFloor_31 ?_
      refine lv_iconst (v := 1) hx hb dX1_raiseFloor_34 (by decide) ?_
      refine lv_iadd hx hb dX1_raiseFloor_35 ?_
      refine va_put (D := D) (ci := 1) (v := .int ((G 4) + 1)) (ty := .int) (C := RX1) (T := TX1) (N := 7) hx hb hts hinH tyX1 tyX1_ok nmX1 hown hK T.1 T.2.1 T.2.2 0 rfl rfl 5 (by decide) (hts (.fieldLink RX1 61 "MoverHall" "blockedCount" "I") (by decide +kernel)) (fun _ h9 => h9) rfl (by decide +kernel) rfl rfl (Nat.le_of_ble_eq_true rfl) dX1_raiseFloor_36 (fun H locs hP hD hS => ?_)
      have T := hw_setH (k := 4) (v := (G 4) + 1) rfl ⟨hP, hD, hS⟩
      have e9 : sp_raiseFloor G S j x2 x3 x4 = (upd G 4 ((G 4) + 1), S) := by unfold sp_raiseFloor; simp only [if_neg c_14, if_neg c_26]
      exact hw_vret C T (by rw [e9]) dX1_raiseFloor_39
/-- closeDoor, its picture -/
def sp_closeDoor (G : Nat → Int32) (S : Nat → Nat → Int32) (j : Nat) (x2 : Int32) : (Nat → Int32) × (Nat → Nat → Int32) := if x2 = 0 then (if (sp_max ((S j 7) - 8) (S j 6)) = ((up2 S j 7 (sp_max ((S j 7) - 8) (S j 6))) j 6) then ((sp_finish G (up2 S j 7 (sp_max ((S j 7) - 8) (S j 6))) j).1, (sp_finish G (up2 S j 7 (sp_max ((S j 7) - 8) (S j 6))) j).2) else (G, up2 S j 7 (sp_max ((S j 7) - 8) (S j 6)))) else (if 56 ≤ ((sp_max ((S j 7) - 8) (S j 6)) - (S j 6)) then (if (sp_max ((S j 7) - 8) (S j 6)) = ((up2 S j 7 (sp_max ((S j 7) - 8) (S j 6))) j 6) then ((sp_finish G (up2 S j 7 (sp_max ((S j 7) - 8) (S j 6))) j).1, (sp_finish G (up2 S j 7 (sp_max ((S j 7) - 8) (S j 6))) j).2) else (G, up2 S j 7 (sp_max ((S j 7) - 8) (S j 6)))) else (upd G 4 ((G 4) + 1), sp_go S j 1))
theorem sp_closeDoor_0 {G : Nat → Int32} {S : Nat → Nat → Int32} {j : Nat} {x2 : Int32} : (sp_closeDoor G S j x2).1 0 = G 0 := by
  unfold sp_closeDoor
  repeat' split
  all_goals first | rfl | exact sp_finish_0
set_option maxHeartbeats 4000000 in
set_option maxRecDepth 100000 in
theorem c_H_closeDoor {j : Nat} {x2 : Int32} (hj : j < 32) : MV l D ((cA, .object RX0) :: tz) yX1_closeDoor wsX1_closeDoor { frames := 3, cells := 0, slots := 0, locals := 62 } [.ref h, .ref (ad j), .int x2] (hw_W h a ad cA G S) (hw_W h a ad cA (sp_closeDoor G S j x2).1 (sp_closeDoor G S j x2).2) := by
  refine MV.start (cc := cX1_closeDoor) (maxL := 4) (by decide) rfl (Nat.le_of_ble_eq_true rfl) (fun p e s m args below meth c A ls C T hl => ?_)
  have hx := C.1.1
  have hb := C.1.2.1
  have hml := C.1.2.2.1
  have hown : s.vm.findClass RX1 = some m.cls := C.1.2.2.2.1
  have hts := C.1.2.2.2.2
  have hK := C.2.2.2.1
  have hN := C.2.2.2.2.1
  have hinH : ∀ w ∈ wsX10, w ∈ wsX1_closeDoor := by decide +kernel
  have hinS : ∀ w ∈ wsX00, w ∈ wsX1_closeDoor := by decide +kernel
  have hl : lv_has ls 4 [(0, .ref h), (1, .ref (ad j)), (2, .int x2)] := hl
  refine lv_aload_n hx hb dX1_closeDoor_0 rfl (lv_at hl 1 rfl) ?_
  refine va_getN (D := D) (ci := 0) (v := .int (S j 7)) (C := RX0) (T := TX0) (N := 13) hx hb hts hinS hown hK T.1 (j + 2) (hw_at hj) rfl 7 (by decide) (va_Nw.use rfl (hN (.fieldLinkNest RX1 93 "MoverHall$Sector" "ceiling" "I" "MoverHall") (by decide +kernel))) (fun _ h9 => h9) rfl dX1_closeDoor_1 ?_
  refine lv_bipush (v := 8) hx hb dX1_closeDoor_4 (by decide) ?_
  refine lv_isub hx hb dX1_closeDoor_6 ?_
  refine lv_aload_n hx hb dX1_closeDoor_7 rfl (lv_at hl 1 rfl) ?_
  refine va_getN (D := D) (ci := 0) (v := .int (S j 6)) (C := RX0) (T := TX0) (N := 13) hx hb hts hinS hown hK T.1 (j + 2) (hw_at hj) rfl 6 (by decide) (va_Nw.use rfl (hN (.fieldLinkNest RX1 90 "MoverHall$Sector" "floor" "I" "MoverHall") (by decide +kernel))) (fun _ h9 => h9) rfl dX1_closeDoor_8 ?_
  refine va_mmax hx hb (by rw [hml, hl.1]) hown (hts (.methodLink RX1 124 Lib.Math.max.name) (by decide +kernel)) (hts (.static Lib.Math.max.name) (by decide +kernel)) (hts (.initialized "java/lang/Math") (by decide +kernel)) (hts (.code Lib.Math.max.name Lib.Math.max.code 2 (some .int)) (by decide +kernel)) (Nat.le_of_ble_eq_true rfl) (Nat.le_of_ble_eq_true rfl) (Nat.zero_le _) (Nat.zero_le _) dX1_closeDoor_11 ?_
  refine W.eq (g2 := F0 m 14 ls [.int (sp_max ((S j 7) - 8) (S j 6))]) rfl ?_
  refine lv_istore_n (lv' := [(3, .int (sp_max ((S j 7) - 8) (S j 6))), (0, .ref h), (1, .ref (ad j)), (2, .int x2)]) hx hb dX1_closeDoor_14 rfl hl (by decide) rfl (fun ls hl => ?_)
  refine lv_iload_n hx hb dX1_closeDoor_15 rfl (lv_at hl 3 rfl) ?_
  refine lv_if_eq (tgt := 46) hx hb dX1_closeDoor_16 (by decide) (fun c_16 => ?_) (fun c_16 => ?_)
  · skip
    refine lv_aload_n hx hb dX1_closeDoor_46 rfl (lv_at hl 2 rfl) ?_
    refine lv_iload_n hx hb dX1_closeDoor_47 rfl (lv_at hl 0 rfl) ?_
    refine va_putN (D := D) (ci := 0) (v := .int (sp_max ((S j 7) - 8) (S j 6))) (ty := .int) (C := RX0) (T := TX0) (N := 13) hx hb hts hinS tyX0 tyX0_ok nmX0 hown hK T.1 T.2.1 T.2.2 (j + 2) (hw_at hj) rfl 7 (by decide) (va_Nw.use rfl (hN (.fieldLinkNest RX1 93 "MoverHall$Sector" "ceiling" "I" "MoverHall") (by decide +kernel))) (fun _ h9 => h9) rfl (by decide +kernel) rfl rfl (Nat.le_of_ble_eq_true rfl) dX1_closeDoor_48 (fun H locs hP hD hS => ?_)
    have T := hw_setS (k := 7) (v := sp_max ((S j 7) - 8) (S j 6)) hj rfl ⟨hP, hD, hS⟩
    refine lv_iload_n hx hb dX1_closeDoor_51 rfl (lv_at hl 0 rfl) ?_
    refine lv_aload_n hx hb dX1_closeDoor_52 rfl (lv_at hl 2 rfl) ?_
    refine va_getN (D := D) (ci := 0) (v := .int ((up2 S j 7 (sp_max ((S j 7) - 8) (S j 6))) j 6)) (C := RX0) (T := TX0) (N := 13) hx hb hts hinS hown hK T.1 (j + 2) (hw_at hj) rfl 6 (by decide) (va_Nw.use rfl (hN (.fieldLinkNest RX1 90 "MoverHall$Sector" "floor" "I" "MoverHall") (by decide +kernel))) (fun _ h9 => h9) rfl dX1_closeDoor_53 ?_
    refine lv_icmp_ne (tgt := 64) hx hb dX1_closeDoor_56 (by decide) (fun c_56 => ?_) (fun c_56 => ?_)
    · skip
      have e9 : sp_closeDoor G S j x2 = (G, up2 S j 7 (sp_max ((S j 7) - 8) (S j 6))) := by unfold sp_closeDoor; simp only [if_pos c_16, if_neg c_56]
      exact hw_vret C T (by rw [e9]) dX1_closeDoor_64
    · skip
      refine lv_aload_n hx hb dX1_closeDoor_59 rfl (lv_at hl 1 rfl) ?_
      refine lv_aload_n hx hb dX1_closeDoor_60 rfl (lv_at hl 2 rfl) ?_
      refine hw_Vv (As := [.ref (ad j)]) (rest := []) C T (c_H_finish hj) (cwV 1 hts gX1_closeDoor_X1_finish rfl rfl rfl (by decide +kernel) ⟨Nat.le_of_ble_eq_true rfl, Nat.le_of_ble_eq_true rfl⟩) hw_isH hw_ad rfl hl.1 rfl (Nat.le_of_ble_eq_true rfl) dX1_closeDoor_61 ⟨Nat.zero_le _, Nat.zero_le _⟩ (fun H locs T => ?_)
      have e9 : sp_closeDoor G S j x2 = ((sp_finish G (up2 S j 7 (sp_max ((S j 7) - 8) (S j 6))) j).1, (sp_finish G (up2 S j 7 (sp_max ((S j 7) - 8) (S j 6))) j).2) := by unfold sp_closeDoor; simp only [if_pos c_16, if_pos c_56]
      exact hw_vret C T (by rw [e9]) dX1_closeDoor_64
  · skip
    refine lv_iload_n hx hb dX1_closeDoor_19 rfl (lv_at hl 0 rfl) ?_
    refine lv_aload_n hx hb dX1_closeDoor_20 rfl (lv_at hl 2 rfl) ?_
    refine va_getN (D := D) (ci := 0) (v := .int (S j 6)) (C := RX0) (T := TX0) (N := 13) hx hb hts hinS hown hK T.1 (j + 2) (hw_at hj) rfl 6 (by decide) (va_Nw.use rfl (hN (.fieldLinkNest RX1 90 "MoverHall$Sector" "floor" "I" "MoverHall") (by decide +kernel))) (fun _ h9 => h9) rfl dX1_closeDoor_21 ?_
    refine lv_isub hx hb dX1_closeDoor_24 ?_
    refine lv_bipush (v := 56) hx hb dX1_closeDoor_25 (by decide) ?_
    refine lv_icmp_ge (tgt := 46) hx hb dX1_closeDoor_27 (by decide) (fun c_27 => ?_) (fun c_27 => ?_)
    · skip
      refine lv_aload_n hx hb dX1_closeDoor_46 rfl (lv_at hl 2 rfl) ?_
      refine lv_iload_n hx hb dX1_closeDoor_47 rfl (lv_at hl 0 rfl) ?_
      refine va_putN (D := D) (ci := 0) (v := .int (sp_max ((S j 7) - 8) (S j 6))) (ty := .int) (C := RX0) (T := TX0) (N := 13) hx hb hts hinS tyX0 tyX0_ok nmX0 hown hK T.1 T.2.1 T.2.2 (j + 2) (hw_at hj) rfl 7 (by decide) (va_Nw.use rfl (hN (.fieldLinkNest RX1 93 "MoverHall$Sector" "ceiling" "I" "MoverHall") (by decide +kernel))) (fun _ h9 => h9) rfl (by decide +kernel) rfl rfl (Nat.le_of_ble_eq_true rfl) dX1_closeDoor_48 (fun H locs hP hD hS => ?_)
      have T := hw_setS (k := 7) (v := sp_max ((S j 7) - 8) (S j 6)) hj rfl ⟨hP, hD, hS⟩
      refine lv_iload_n hx hb dX1_closeDoor_51 rfl (lv_at hl 0 rfl) ?_
      refine lv_aload_n hx hb dX1_closeDoor_52 rfl (lv_at hl 2 rfl) ?_
      refine va_getN (D := D) (ci := 0) (v := .int ((up2 S j 7 (sp_max ((S j 7) - 8) (S j 6))) j 6)) (C := RX0) (T := TX0) (N := 13) hx hb hts hinS hown hK T.1 (j + 2) (hw_at hj) rfl 6 (by decide) (va_Nw.use rfl (hN (.fieldLinkNest RX1 90 "MoverHall$Sector" "floor" "I" "MoverHall") (by decide +kernel))) (fun _ h9 => h9) rfl dX1_closeDoor_53 ?_
      refine lv_icmp_ne (tgt := 64) hx hb dX1_closeDoor_56 (by decide) (fun c_56 => ?_) (fun c_56 => ?_)
      · skip
        have e9 : sp_closeDoor G S j x2 = (G, up2 S j 7 (sp_max ((S j 7) - 8) (S j 6))) := by unfold sp_closeDoor; simp only [if_neg c_16, if_pos c_27, if_neg c_56]
        exact hw_vret C T (by rw [e9]) dX1_closeDoor_64
      · skip
        refine lv_aload_n hx hb dX1_closeDoor_59 rfl (lv_at hl 1 rfl) ?_
        refine lv_aload_n hx hb dX1_closeDoor_60 rfl (lv_at hl 2 rfl) ?_
        refine hw_Vv (As := [.ref (ad j)]) (rest := []) C T (c_H_finish hj) (cwV 1 hts gX1_closeDoor_X1_finish rfl rfl rfl (by decide +kernel) ⟨Nat.le_of_ble_eq_true rfl, Nat.le_of_ble_eq_true rfl⟩) hw_isH hw_ad rfl hl.1 rfl (Nat.le_of_ble_eq_true rfl) dX1_closeDoor_61 ⟨Nat.zero_le _, Nat.zero_le _⟩ (fun H locs T => ?_)
        have e9 : sp_closeDoor G S j x2 = ((sp_finish G (up2 S j 7 (sp_max ((S j 7) - 8) (S j 6))) j).1, (sp_finish G (up2 S j 7 (sp_max ((S j 7) - 8) (S j 6))) j).2) := by unfold sp_closeDoor; simp only [if_neg c_16, if_pos c_27, if_pos c_56]
        exact hw_vret C T (by rw [e9]) dX1_closeDoor_64
    · skip
      refine lv_aload_n hx hb dX1_closeDoor_30 rfl (lv_at hl 1 rfl) ?_
      refine lv_dup hx hb dX1_closeDoor_31 rfl ?_
      refine va_get (D := D) (ci := 1) (v := .int (G 4)) (C := RX1) (T := TX1) (N := 7) hx hb hts hinH hown hK T.1 0 rfl rfl 5 (by decide) (hts (.fieldLink RX1 61 "MoverHall" "blockedCount" "I") (by decide +kernel)) (fun _ h9 => h9) rfl dX1_closeDoor_32 ?_
      refine lv_iconst (v := 1) hx hb dX1_closeDoor_35 (by decide) ?_
      refine lv_iadd hx hb dX1_closeDoor_36 ?_
      refine va_put (D := D) (ci := 1) (v := .int ((G 4) + 1)) (ty := .int) (C := RX1) (T := TX1) (N := 7) hx hb hts hinH tyX1 tyX1_ok nmX1 hown hK T.1 T.2.1 T.2.2 0 rfl rfl 5 (by decide) (hts (.fieldLink RX1 61 "MoverHall" "blockedCount" "I") (by decide +kernel)) (fun _ h9 => h9) rfl (by decide +kernel) rfl rfl (Nat.le_of_ble_eq_true rfl) dX1_closeDoor_37 (fun H locs hP hD hS => ?_)
      have T := hw_setH (k := 4) (v := (G 4) + 1) rfl ⟨hP, hD, hS⟩
      refine lv_aload_n hx hb dX1_closeDoor_40 rfl (lv_at hl 2 rfl) ?_
      refine lv_iconst (v := 1) hx hb dX1_closeDoor_41 (by decide) ?_
      refine hw_Nv (As := [.int 1]) (rest := []) C T (c_S_go hj) ⟨va_cnB 1 hts gX1_closeDoor_X0_go_n77 rfl rfl rfl (hN (.methodLinkNest RX1 77 yX0_go "MoverHall") (by decide +kernel)) (hts (.initialized RX0) (by decide +kernel)) (by decide +kernel) ⟨Nat.le_of_ble_eq_true rfl, Nat.le_of_ble_eq_true rfl⟩, hts (.instanceMethod yX0_go) (by decide +kernel), hts (.selects RX0 yX0_go yX0_go) (by decide +kernel)⟩ (hw_isS hj) hw_ad rfl hl.1 rfl (Nat.le_of_ble_eq_true rfl) dX1_closeDoor_42 ⟨Nat.zero_le _, Nat.zero_le _⟩ (fun H locs T => ?_)
      have e9 : sp_closeDoor G S j x2 = (upd G 4 ((G 4) + 1), sp_go S j 1) := by unfold sp_closeDoor; simp only [if_neg c_16, if_neg c_27]
      exact hw_vret C T (by rw [e9]) dX1_closeDoor_45
/-- moveDoor, its picture -/
def sp_moveDoor (G : Nat → Int32) (S : Nat → Nat → Int32) (j : Nat) (x2 : Int32) : (Nat → Int32) × (Nat → Nat → Int32) := if (S j 9) = (-1) then ((sp_closeDoor G S j x2).1, (sp_closeDoor G S j x2).2) else (if ((up2 S j 7 (sp_min ((S j 7) + 8) (S j 11))) j 7) = ((up2 S j 7 (sp_min ((S j 7) + 8) (S j 11))) j 11) then (G, sp_waitFor (up2 S j 7 (sp_min ((S j 7) + 8) (S j 11))) j 20) else (G, up2 S j 7 (sp_min ((S j 7) + 8) (S j 11))))
theorem sp_moveDoor_0 {G : Nat → Int32} {S : Nat → Nat → Int32} {j : Nat} {x2 : Int32} : (sp_moveDoor G S j x2).1 0 = G 0 := by
  unfold sp_moveDoor
  repeat' split
  all_goals first | rfl | exact sp_closeDoor_0
set_option maxHeartbeats 4000000 in
set_option maxRecDepth 100000 in
theorem c_H_moveDoor {j : Nat} {x2 : Int32} (hj : j < 32) : MV l D ((cA, .object RX0) :: tz) yX1_moveDoor wsX1_moveDoor { frames := 4, cells := 0, slots := 0, locals := 85 } [.ref h, .ref (ad j), .int x2] (hw_W h a ad cA G S) (hw_W h a ad cA (sp_moveDoor G S j x2).1 (sp_moveDoor G S j x2).2) := by
  refine MV.start (cc := cX1_moveDoor) (maxL := 3) (by decide) rfl (Nat.le_of_ble_eq_true rfl) (fun p e s m args below meth c A ls C T hl => ?_)
  have hx := C.1.1
  have hb := C.1.2.1
  have hml := C.1.2.2.1
  have hown : s.vm.findClass RX1 = some m.cls := C.1.2.2.2.1
  have hts := C.1.2.2.2.2
  have hK := C.2.2.2.1
  have hN := C.2.2.2.2.1
  have hinS : ∀ w ∈ wsX00, w ∈ wsX1_moveDoor := by decide +kernel
  have hl : lv_has ls 3 [(0, .ref h), (1, .ref (ad j)), (2, .int x2)] := hl
  refine lv_aload_n hx hb dX1_moveDoor_0 rfl (lv_at hl 1 rfl) ?_
  refine va_getN (D := D) (ci := 0) (v := .int (S j 9)) (C := RX0) (T := TX0) (N := 13) hx hb hts hinS hown hK T.1 (j + 2) (hw_at hj) rfl 9 (by decide) (va_Nw.use rfl (hN (.fieldLinkNest RX1 74 "MoverHall$Sector" "way" "I" "MoverHall") (by decide +kernel))) (fun _ h9 => h9) rfl dX1_moveDoor_1 ?_
  refine lv_iconst (v := (-1)) hx hb dX1_moveDoor_4 (by decide) ?_
  refine lv_icmp_ne (tgt := 15) hx hb dX1_moveDoor_5 (by decide) (fun c_5 => ?_) (fun c_5 => ?_)
  · skip
    refine lv_aload_n hx hb dX1_moveDoor_15 rfl (lv_at hl 1 rfl) ?_
    refine lv_aload_n hx hb dX1_moveDoor_16 rfl (lv_at hl 1 rfl) ?_
    refine va_getN (D := D) (ci := 0) (v := .int (S j 7)) (C := RX0) (T := TX0) (N := 13) hx hb hts hinS hown hK T.1 (j + 2) (hw_at hj) rfl 7 (by decide) (va_Nw.use rfl (hN (.fieldLinkNest RX1 93 "MoverHall$Sector" "ceiling" "I" "MoverHall") (by decide +kernel))) (fun _ h9 => h9) rfl dX1_moveDoor_17 ?_
    refine lv_bipush (v := 8) hx hb dX1_moveDoor_20 (by decide) ?_
    refine lv_iadd hx hb dX1_moveDoor_22 ?_
    refine lv_aload_n hx hb dX1_moveDoor_23 rfl (lv_at hl 1 rfl) ?_
    refine va_getN (D := D) (ci := 0) (v := .int (S j 11)) (C := RX0) (T := TX0) (N := 13) hx hb hts hinS hown hK T.1 (j + 2) (hw_at hj) rfl 11 (by decide) (va_Nw.use rfl (hN (.fieldLinkNest RX1 112 "MoverHall$Sector" "wayEnd" "I" "MoverHall") (by decide +kernel))) (fun _ h9 => h9) rfl dX1_moveDoor_24 ?_
    refine va_mmin hx hb (by rw [hml, hl.1]) hown (hts (.methodLink RX1 118 Lib.Math.min.name) (by decide +kernel)) (hts (.static Lib.Math.min.name) (by decide +kernel)) (hts (.initialized "java/lang/Math") (by decide +kernel)) (hts (.code Lib.Math.min.name Lib.Math.min.code 2 (some .int)) (by decide +kernel)) (Nat.le_of_ble_eq_true rfl) (Nat.le_of_ble_eq_true rfl) (Nat.zero_le _) (Nat.zero_le _) dX1_moveDoor_27 ?_
    refine W.eq (g2 := F0 m 30 ls [.int (sp_min ((S j 7) + 8) (S j 11)), .ref (ad j)]) rfl ?_
    refine va_putN (D := D) (ci := 0) (v := .int (sp_min ((S j 7) + 8) (S j 11))) (ty := .int) (C := RX0) (T := TX0) (N := 13) hx hb hts hinS tyX0 tyX0_ok nmX0 hown hK T.1 T.2.1 T.2.2 (j + 2) (hw_at hj) rfl 7 (by decide) (va_Nw.use rfl (hN (.fieldLinkNest RX1 93 "MoverHall$Sector" "ceiling" "I" "MoverHall") (by decide +kernel))) (fun _ h9 => h9) rfl (by decide +kernel) rfl rfl (Nat.le_of_ble_eq_true rfl) dX1_moveDoor_30 (fun H locs hP hD hS => ?_)
    have T := hw_setS (k := 7) (v := sp_min ((S j 7) + 8) (S j 11)) hj rfl ⟨hP, hD, hS⟩
    refine lv_aload_n hx hb dX1_moveDoor_33 rfl (lv_at hl 1 rfl) ?_
    refine va_getN (D := D) (ci := 0) (v := .int ((up2 S j 7 (sp_min ((S j 7) + 8) (S j 11))) j 7)) (C := RX0) (T := TX0) (N := 13) hx hb hts hinS hown hK T.1 (j + 2) (hw_at hj) rfl 7 (by decide) (va_Nw.use rfl (hN (.fieldLinkNest RX1 93 "MoverHall$Sector" "ceiling" "I" "MoverHall") (by decide +kernel))) (fun _ h9 => h9) rfl dX1_moveDoor_34 ?_
    refine lv_aload_n hx hb dX1_moveDoor_37 rfl (lv_at hl 1 rfl) ?_
    refine va_getN (D := D) (ci := 0) (v := .int ((up2 S j 7 (sp_min ((S j 7) + 8) (S j 11))) j 11)) (C := RX0) (T := TX0) (N := 13) hx hb hts hinS hown hK T.1 (j + 2) (hw_at hj) rfl 11 (by decide) (va_Nw.use rfl (hN (.fieldLinkNest RX1 112 "MoverHall$Sector" "wayEnd" "I" "MoverHall") (by decide +kernel))) (fun _ h9 => h9) rfl dX1_moveDoor_38 ?_
    refine lv_icmp_ne (tgt := 50) hx hb dX1_moveDoor_41 (by decide) (fun c_41 => ?_) (fun c_41 => ?_)
    · skip
      have e9 : sp_moveDoor G S j x2 = (G, up2 S j 7 (sp_min ((S j 7) + 8) (S j 11))) := by unfold sp_moveDoor; simp only [if_neg c_5, if_neg c_41]
      exact hw_vret C T (by rw [e9]) dX1_moveDoor_50
    · skip
      refine lv_aload_n hx hb dX1_moveDoor_44 rfl (lv_at hl 1 rfl) ?_
      refine lv_bipush (v := 20) hx hb dX1_moveDoor_45 (by decide) ?_
      refine hw_Nv (As := [.int 20]) (rest := []) C T (c_S_waitFor hj) ⟨va_cnB 1 hts gX1_moveDoor_X0_waitFor_n167 rfl rfl rfl (hN (.methodLinkNest RX1 167 yX0_waitFor "MoverHall") (by decide +kernel)) (hts (.initialized RX0) (by decide +kernel)) (by decide +kernel) ⟨Nat.le_of_ble_eq_true rfl, Nat.le_of_ble_eq_true rfl⟩, hts (.instanceMethod yX0_waitFor) (by decide +kernel), hts (.selects RX0 yX0_waitFor yX0_waitFor) (by decide +kernel)⟩ (hw_isS hj) hw_ad rfl hl.1 rfl (Nat.le_of_ble_eq_true rfl) dX1_moveDoor_47 ⟨Nat.zero_le _, Nat.zero_le _⟩ (fun H locs T => ?_)
      have e9 : sp_moveDoor G S j x2 = (G, sp_waitFor (up2 S j 7 (sp_min ((S j 7) + 8) (S j 11))) j 20) := by unfold sp_moveDoor; simp only [if_neg c_5, if_pos c_41]
      exact hw_vret C T (by rw [e9]) dX1_moveDoor_50
  · skip
    refine lv_aload_n hx hb dX1_moveDoor_8 rfl (lv_at hl 0 rfl) ?_
    refine lv_aload_n hx hb dX1_moveDoor_9 rfl (lv_at hl 1 rfl) ?_
    refine lv_iload_n hx hb dX1_moveDoor_10 rfl (lv_at hl 2 rfl) ?_
    refine hw_Vv (As := [.ref (ad j), .int x2]) (rest := []) C T (c_H_closeDoor hj) (cwV 2 hts gX1_moveDoor_X1_closeDoor rfl rfl rfl (by decide +kernel) ⟨Nat.le_of_ble_eq_true rfl, Nat.le_of_ble_eq_true rfl⟩) hw_isH hw_ad rfl hl.1 rfl (Nat.le_of_ble_eq_true rfl) dX1_moveDoor_11 ⟨Nat.zero_le _, Nat.zero_le _⟩ (fun H locs T => ?_)
    have e9 : sp_moveDoor G S j x2 = ((sp_closeDoor G S j x2).1, (sp_closeDoor G S j x2).2) := by unfold sp_moveDoor; simp only [if_pos c_5]
    exact hw_vret C T (by rw [e9]) dX1_moveDoor_14
/-- moveLift, its picture -/
def sp_moveLift (G : Nat → Int32) (S : Nat → Nat → Int32) (j : Nat) (x2 : Int32) : (Nat → Int32) × (Nat → Nat → Int32) := if (S j 9) = 1 then ((sp_raiseFloor G S j 4 (S j 12) x2).1, (sp_raiseFloor G S j 4 (S j 12) x2).2) else (if ((up2 S j 6 (sp_max ((S j 6) - 4) (S j 11))) j 6) = ((up2 S j 6 (sp_max ((S j 6) - 4) (S j 11))) j 11) then (G, sp_waitFor (up2 S j 6 (sp_max ((S j 6) - 4) (S j 11))) j 30) else (G, up2 S j 6 (sp_max ((S j 6) - 4) (S j 11))))
theorem sp_moveLift_0 {G : Nat → Int32} {S : Nat → Nat → Int32} {j : Nat} {x2 : Int32} : (sp_moveLift G S j x2).1 0 = G 0 := by
  unfold sp_moveLift
  repeat' split
  all_goals first | rfl | exact sp_raiseFloor_0
set_option maxHeartbeats 4000000 in
set_option maxRecDepth 100000 in
theorem c_H_moveLift {j : Nat} {x2 : Int32} (hj : j < 32) : MV l D ((cA, .object RX0) :: tz) yX1_moveLift wsX1_moveLift { frames := 4, cells := 0, slots := 0, locals := 87 } [.ref h, .ref (ad j), .int x2] (hw_W h a ad cA G S) (hw_W h a ad cA (sp_moveLift G S j x2).1 (sp_moveLift G S j x2).2) := by
  refine MV.start (cc := cX1_moveLift) (maxL := 3) (by decide) rfl (Nat.le_of_ble_eq_true rfl) (fun p e s m args below meth c A ls C T hl => ?_)
  have hx := C.1.1
  have hb := C.1.2.1
  have hml := C.1.2.2.1
  have hown : s.vm.findClass RX1 = some m.cls := C.1.2.2.2.1
  have hts := C.1.2.2.2.2
  have hK := C.2.2.2.1
  have hN := C.2.2.2.2.1
  have hinS : ∀ w ∈ wsX00, w ∈ wsX1_moveLift := by decide +kernel
  have hl : lv_has ls 3 [(0, .ref h), (1, .ref (ad j)), (2, .int x2)] := hl
  refine lv_aload_n hx hb dX1_moveLift_0 rfl (lv_at hl 1 rfl) ?_
  refine va_getN (D := D) (ci := 0) (v := .int (S j 9)) (C := RX0) (T := TX0) (N := 13) hx hb hts hinS hown hK T.1 (j + 2) (hw_at hj) rfl 9 (by decide) (va_Nw.use rfl (hN (.fieldLinkNest RX1 74 "MoverHall$Sector" "way" "I" "MoverHall") (by decide +kernel))) (fun _ h9 => h9) rfl dX1_moveLift_1 ?_
  refine lv_iconst (v := 1) hx hb dX1_moveLift_4 (by decide) ?_
  refine lv_icmp_ne (tgt := 20) hx hb dX1_moveLift_5 (by decide) (fun c_5 => ?_) (fun c_5 => ?_)
  · skip
    refine lv_aload_n hx hb dX1_moveLift_20 rfl (lv_at hl 1 rfl) ?_
    refine lv_aload_n hx hb dX1_moveLift_21 rfl (lv_at hl 1 rfl) ?_
    refine va_getN (D := D) (ci := 0) (v := .int (S j 6)) (C := RX0) (T := TX0) (N := 13) hx hb hts hinS hown hK T.1 (j + 2) (hw_at hj) rfl 6 (by decide) (va_Nw.use rfl (hN (.fieldLinkNest RX1 90 "MoverHall$Sector" "floor" "I" "MoverHall") (by decide +kernel))) (fun _ h9 => h9) rfl dX1_moveLift_22 ?_
    refine lv_iconst (v := 4) hx hb dX1_moveLift_25 (by decide) ?_
    refine lv_isub hx hb dX1_moveLift_26 ?_
    refine lv_aload_n hx hb dX1_moveLift_27 rfl (lv_at hl 1 rfl) ?_
    refine va_getN (D := D) (ci := 0) (v := .int (S j 11)) (C := RX0) (T := TX0) (N := 13) hx hb hts hinS hown hK T.1 (j + 2) (hw_at hj) rfl 11 (by decide) (va_Nw.use rfl (hN (.fieldLinkNest RX1 112 "MoverHall$Sector" "wayEnd" "I" "MoverHall") (by decide +kernel))) (fun _ h9 => h9) rfl dX1_moveLift_28 ?_
    refine va_mmax hx hb (by rw [hml, hl.1]) hown (hts (.methodLink RX1 124 Lib.Math.max.name) (by decide +kernel)) (hts (.static Lib.Math.max.name) (by decide +kernel)) (hts (.initialized "java/lang/Math") (by decide +kernel)) (hts (.code Lib.Math.max.name Lib.Math.max.code 2 (some .int)) (by decide +kernel)) (Nat.le_of_ble_eq_true rfl) (Nat.le_of_ble_eq_true rfl) (Nat.zero_le _) (Nat.zero_le _) dX1_moveLift_31 ?_
    refine W.eq (g2 := F0 m 34 ls [.int (sp_max ((S j 6) - 4) (S j 11)), .ref (ad j)]) rfl ?_
    refine va_putN (D := D) (ci := 0) (v := .int (sp_max ((S j 6) - 4) (S j 11))) (ty := .int) (C := RX0) (T := TX0) (N := 13) hx hb hts hinS tyX0 tyX0_ok nmX0 hown hK T.1 T.2.1 T.2.2 (j + 2) (hw_at hj) rfl 6 (by decide) (va_Nw.use rfl (hN (.fieldLinkNest RX1 90 "MoverHall$Sector" "floor" "I" "MoverHall") (by decide +kernel))) (fun _ h9 => h9) rfl (by decide +kernel) rfl rfl (Nat.le_of_ble_eq_true rfl) dX1_moveLift_34 (fun H locs hP hD hS => ?_)
    have T := hw_setS (k := 6) (v := sp_max ((S j 6) - 4) (S j 11)) hj rfl ⟨hP, hD, hS⟩
    refine lv_aload_n hx hb dX1_moveLift_37 rfl (lv_at hl 1 rfl) ?_
    refine va_getN (D := D) (ci := 0) (v := .int ((up2 S j 6 (sp_max ((S j 6) - 4) (S j 11))) j 6)) (C := RX0) (T := TX0) (N := 13) hx hb hts hinS hown hK T.1 (j + 2) (hw_at hj) rfl 6 (by decide) (va_Nw.use rfl (hN (.fieldLinkNest RX1 90 "MoverHall$Sector" "floor" "I" "MoverHall") (by decide +kernel))) (fun _ h9 => h9) rfl dX1_moveLift_38 ?_
    refine lv_aload_n hx hb dX1_moveLift_41 rfl (lv_at hl 1 rfl) ?_
    refine va_getN (D := D) (ci := 0) (v := .int ((up2 S j 6 (sp_max ((S j 6) - 4) (S j 11))) j 11)) (C := RX0) (T := TX0) (N := 13) hx hb hts hinS hown hK T.1 (j + 2) (hw_at hj) rfl 11 (by decide) (va_Nw.use rfl (hN (.fieldLinkNest RX1 112 "MoverHall$Sector" "wayEnd" "I" "MoverHall") (by decide +kernel))) (fun _ h9 => h9) rfl dX1_moveLift_42 ?_
    refine lv_icmp_ne (tgt := 54) hx hb dX1_moveLift_45 (by decide) (fun c_45 => ?_) (fun c_45 => ?_)
    · skip
      have e9 : sp_moveLift G S j x2 = (G, up2 S j 6 (sp_max ((S j 6) - 4) (S j 11))) := by unfold sp_moveLift; simp only [if_neg c_5, if_neg c_45]
      exact hw_vret C T (by rw [e9]) dX1_moveLift_54
    · skip
      refine lv_aload_n hx hb dX1_moveLift_48 rfl (lv_at hl 1 rfl) ?_
      refine lv_bipush (v := 30) hx hb dX1_moveLift_49 (by decide) ?_
      refine hw_Nv (As := [.int 30]) (rest := []) C T (c_S_waitFor hj) ⟨va_cnB 1 hts gX1_moveLift_X0_waitFor_n167 rfl rfl rfl (hN (.methodLinkNest RX1 167 yX0_waitFor "MoverHall") (by decide +kernel)) (hts (.initialized RX0) (by decide +kernel)) (by decide +kernel) ⟨Nat.le_of_ble_eq_true rfl, Nat.le_of_ble_eq_true rfl⟩, hts (.instanceMethod yX0_waitFor) (by decide +kernel), hts (.selects RX0 yX0_waitFor yX0_waitFor) (by decide +kernel)⟩ (hw_isS hj) hw_ad rfl hl.1 rfl (Nat.le_of_ble_eq_true rfl) dX1_moveLift_51 ⟨Nat.zero_le _, Nat.zero_le _⟩ (fun H locs T => ?_)
      have e9 : sp_moveLift G S j x2 = (G, sp_waitFor (up2 S j 6 (sp_max ((S j 6) - 4) (S j 11))) j 30) := by unfold sp_moveLift; simp only [if_neg c_5, if_pos c_45]
      exact hw_vret C T (by rw [e9]) dX1_moveLift_54
  · skip
    refine lv_aload_n hx hb dX1_moveLift_8 rfl (lv_at hl 0 rfl) ?_
    refine lv_aload_n hx hb dX1_moveLift_9 rfl (lv_at hl 1 rfl) ?_
    refine lv_iconst (v := 4) hx hb dX1_moveLift_10 (by decide) ?_
    refine lv_aload_n hx hb dX1_moveLift_11 rfl (lv_at hl 1 rfl) ?_
    refine va_getN (D := D) (ci := 0) (v := .int (S j 12)) (C := RX0) (T := TX0) (N := 13) hx hb hts hinS hown hK T.1 (j + 2) (hw_at hj) rfl 12 (by decide) (va_Nw.use rfl (hN (.fieldLinkNest RX1 137 "MoverHall$Sector" "startFloor" "I" "MoverHall") (by decide +kernel))) (fun _ h9 => h9) rfl dX1_moveLift_12 ?_
    refine lv_iload_n hx hb dX1_moveLift_15 rfl (lv_at hl 2 rfl) ?_
    refine hw_Vv (As := [.ref (ad j), .int 4, .int (S j 12), .int x2]) (rest := []) C T (c_H_raiseFloor hj) (cwV 4 hts gX1_moveLift_X1_raiseFloor rfl rfl rfl (by decide +kernel) ⟨Nat.le_of_ble_eq_true rfl, Nat.le_of_ble_eq_true rfl⟩) hw_isH hw_ad rfl hl.1 rfl (Nat.le_of_ble_eq_true rfl) dX1_moveLift_16 ⟨Nat.zero_le _, Nat.zero_le _⟩ (fun H locs T => ?_)
    have e9 : sp_moveLift G S j x2 = ((sp_raiseFloor G S j 4 (S j 12) x2).1, (sp_raiseFloor G S j 4 (S j 12) x2).2) := by unfold sp_moveLift; simp only [if_pos c_5]
    exact hw_vret C T (by rw [e9]) dX1_moveLift_19
/-- move, its picture -/
def sp_move (G : Nat → Int32) (S : Nat → Nat → Int32) (j : Nat) (x2 : Int32) : (Nat → Int32) × (Nat → Nat → Int32) := if (S j 8) = (-1) then (G, S) else (if (S j 10) ≤ 0 then (if (S j 8) = 0 then ((sp_moveDoor G S j x2).1, (sp_moveDoor G S j x2).2) else (if (S j 8) = 1 then ((sp_moveLift G S j x2).1, (sp_moveLift G S j x2).2) else ((sp_raiseFloor G S j 2 (S j 11) x2).1, (sp_raiseFloor G S j 2 (S j 11) x2).2))) else (G, sp_waitOneTick S j))
theorem sp_move_0 {G : Nat → Int32} {S : Nat → Nat → Int32} {j : Nat} {x2 : Int32} : (sp_move G S j x2).1 0 = G 0 := by
  unfold sp_move
  repeat' split
  all_goals first | rfl | exact sp_moveDoor_0 | exact sp_moveLift_0 | exact sp_raiseFloor_0
theorem sp_move_n {G : Nat → Int32} {S : Nat → Nat → Int32} {j : Nat} {x2 : Int32} {n : Nat} (h : hg_n G n) : hg_n (sp_move G S j x2).1 n := ⟨h.1, by rw [sp_move_0]; exact h.2⟩
set_option maxHeartbeats 4000000 in
set_option maxRecDepth 100000 in
theorem c_H_move {j : Nat} {x2 : Int32} (hj : j < 32) : MV l D ((cA, .object RX0) :: tz) yX1_move wsX1_move { frames := 5, cells := 0, slots := 0, locals := 109 } [.ref h, .ref (ad j), .int x2] (hw_W h a ad cA G S) (hw_W h a ad cA (sp_move G S j x2).1 (sp_move G S j x2).2) := by
  refine MV.start (cc := cX1_move) (maxL := 3) (by decide) rfl (Nat.le_of_ble_eq_true rfl) (fun p e s m args below meth c A ls C T hl => ?_)
  have hx := C.1.1
  have hb := C.1.2.1
  have hml := C.1.2.2.1
  have hown : s.vm.findClass RX1 = some m.cls := C.1.2.2.2.1
  have hts := C.1.2.2.2.2
  have hK := C.2.2.2.1
  have hN := C.2.2.2.2.1
  have hinS : ∀ w ∈ wsX00, w ∈ wsX1_move := by decide +kernel
  have hl : lv_has ls 3 [(0, .ref h), (1, .ref (ad j)), (2, .int x2)] := hl
  refine lv_aload_n hx hb dX1_move_0 rfl (lv_at hl 1 rfl) ?_
  refine va_getN (D := D) (ci := 0) (v := .int (S j 8)) (C := RX0) (T := TX0) (N := 13) hx hb hts hinS hown hK T.1 (j + 2) (hw_at hj) rfl 8 (by decide) (va_Nw.use rfl (hN (.fieldLinkNest RX1 67 "MoverHall$Sector" "mover" "I" "MoverHall") (by decide +kernel))) (fun _ h9 => h9) rfl dX1_move_1 ?_
  refine lv_iconst (v := (-1)) hx hb dX1_move_4 (by decide) ?_
  refine lv_icmp_ne (tgt := 9) hx hb dX1_move_5 (by decide) (fun c_5 => ?_) (fun c_5 => ?_)
  · skip
    refine lv_aload_n hx hb dX1_move_9 rfl (lv_at hl 1 rfl) ?_
    refine va_getN (D := D) (ci := 0) (v := .int (S j 10)) (C := RX0) (T := TX0) (N := 13) hx hb hts hinS hown hK T.1 (j + 2) (hw_at hj) rfl 10 (by decide) (va_Nw.use rfl (hN (.fieldLinkNest RX1 100 "MoverHall$Sector" "waitLeft" "I" "MoverHall") (by decide +kernel))) (fun _ h9 => h9) rfl dX1_move_10 ?_
    refine lv_if_le (tgt := 21) hx hb dX1_move_13 (by decide) (fun c_13 => ?_) (fun c_13 => ?_)
    · skip
      refine lv_aload_n hx hb dX1_move_21 rfl (lv_at hl 1 rfl) ?_
      refine va_getN (D := D) (ci := 0) (v := .int (S j 8)) (C := RX0) (T := TX0) (N := 13) hx hb hts hinS hown hK T.1 (j + 2) (hw_at hj) rfl 8 (by decide) (va_Nw.use rfl (hN (.fieldLinkNest RX1 67 "MoverHall$Sector" "mover" "I" "MoverHall") (by decide +kernel))) (fun _ h9 => h9) rfl dX1_move_22 ?_
      by_cases c_25_0 : (S j 8) = 0
      · skip
        refine lv_lookup (off := 27) (tgt := 52) hx hb dX1_move_25 (by decide) (by rw [c_25_0]; decide +kernel) (by decide) ?_
        refine lv_aload_n hx hb dX1_move_52 rfl (lv_at hl 0 rfl) ?_
        refine lv_aload_n hx hb dX1_move_53 rfl (lv_at hl 1 rfl) ?_
        refine lv_iload_n hx hb dX1_move_54 rfl (lv_at hl 2 rfl) ?_
        refine hw_Vv (As := [.ref (ad j), .int x2]) (rest := []) C T (c_H_moveDoor hj) (cwV 2 hts gX1_move_X1_moveDoor rfl rfl rfl (by decide +kernel) ⟨Nat.le_of_ble_eq_true rfl, Nat.le_of_ble_eq_true rfl⟩) hw_isH hw_ad rfl hl.1 rfl (Nat.le_of_ble_eq_true rfl) dX1_move_55 ⟨Nat.zero_le _, Nat.zero_le _⟩ (fun H locs T => ?_)
        refine lv_goto (tgt := 81) hx hb dX1_move_58 (by decide) ?_
        have e9 : sp_move G S j x2 = ((sp_moveDoor G S j x2).1, (sp_moveDoor G S j x2).2) := by unfold sp_move; simp only [if_neg c_5, if_pos c_13, if_pos c_25_0]
        exact hw_vret C T (by rw [e9]) dX1_move_81
      · skip
        by_cases c_25_1 : (S j 8) = 1
        · skip
          refine lv_lookup (off := 36) (tgt := 61) hx hb dX1_move_25 (by decide) (by rw [c_25_1]; decide +kernel) (by decide) ?_
          refine lv_aload_n hx hb dX1_move_61 rfl (lv_at hl 0 rfl) ?_
          refine lv_aload_n hx hb dX1_move_62 rfl (lv_at hl 1 rfl) ?_
          refine lv_iload_n hx hb dX1_move_63 rfl (lv_at hl 2 rfl) ?_
          refine hw_Vv (As := [.ref (ad j), .int x2]) (rest := []) C T (c_H_moveLift hj) (cwV 2 hts gX1_move_X1_moveLift rfl rfl rfl (by decide +kernel) ⟨Nat.le_of_ble_eq_true rfl, Nat.le_of_ble_eq_true rfl⟩) hw_isH hw_ad rfl hl.1 rfl (Nat.le_of_ble_eq_true rfl) dX1_move_64 ⟨Nat.zero_le _, Nat.zero_le _⟩ (fun H locs T => ?_)
          refine lv_goto (tgt := 81) hx hb dX1_move_67 (by decide) ?_
          have e9 : sp_move G S j x2 = ((sp_moveLift G S j x2).1, (sp_moveLift G S j x2).2) := by unfold sp_move; simp only [if_neg c_5, if_pos c_13, if_neg c_25_0, if_pos c_25_1]
          exact hw_vret C T (by rw [e9]) dX1_move_81
        · skip
          refine lv_lookup (off := 45) (tgt := 70) hx hb dX1_move_25 (by decide) (by show Op.lookupswitch.offset [(0, 27), (1, 36)] 45 _ = _; rw [lv_osw c_25_0 (by decide), lv_osw c_25_1 (by decide)]; rfl) (by decide) ?_
          refine lv_aload_n hx hb dX1_move_70 rfl (lv_at hl 0 rfl) ?_
          refine lv_aload_n hx hb dX1_move_71 rfl (lv_at hl 1 rfl) ?_
          refine lv_iconst (v := 2) hx hb dX1_move_72 (by decide) ?_
          refine lv_aload_n hx hb dX1_move_73 rfl (lv_at hl 1 rfl) ?_
          refine va_getN (D := D) (ci := 0) (v := .int (S j 11)) (C := RX0) (T := TX0) (N := 13) hx hb hts hinS hown hK T.1 (j + 2) (hw_at hj) rfl 11 (by decide) (va_Nw.use rfl (hN (.fieldLinkNest RX1 112 "MoverHall$Sector" "wayEnd" "I" "MoverHall") (by decide +kernel))) (fun _ h9 => h9) rfl dX1_move_74 ?_
          refine lv_iload_n hx hb dX1_move_77 rfl (lv_at hl 2 rfl) ?_
          refine hw_Vv (As := [.ref (ad j), .int 2, .int (S j 11), .int x2]) (rest := []) C T (c_H_raiseFloor hj) (cwV 4 hts gX1_move_X1_raiseFloor rfl rfl rfl (by decide +kernel) ⟨Nat.le_of_ble_eq_true rfl, Nat.le_of_ble_eq_true rfl⟩) hw_isH hw_ad rfl hl.1 rfl (Nat.le_of_ble_eq_true rfl) dX1_move_78 ⟨Nat.zero_le _, Nat.zero_le _⟩ (fun H locs T => ?_)
          have e9 : sp_move G S j x2 = ((sp_raiseFloor G S j 2 (S j 11) x2).1, (sp_raiseFloor G S j 2 (S j 11) x2).2) := by unfold sp_move; simp only [if_neg c_5, if_pos c_13, if_neg c_25_0, if_neg c_25_1]
          exact hw_vret C T (by rw [e9]) dX1_move_81
    · skip
      refine lv_aload_n hx hb dX1_move_16 rfl (lv_at hl 1 rfl) ?_
      refine hw_Nv (As := []) (rest := []) C T (c_S_waitOneTick hj) ⟨va_cnB 0 hts gX1_move_X0_waitOneTick_n151 rfl rfl rfl (hN (.methodLinkNest RX1 151 yX0_waitOneTick "MoverHall") (by decide +kernel)) (hts (.initialized RX0) (by decide +kernel)) (by decide +kernel) ⟨Nat.le_of_ble_eq_true rfl, Nat.le_of_ble_eq_true rfl⟩, hts (.instanceMethod yX0_waitOneTick) (by decide +kernel), hts (.selects RX0 yX0_waitOneTick yX0_waitOneTick) (by decide +kernel)⟩ (hw_isS hj) hw_ad rfl hl.1 rfl (Nat.le_of_ble_eq_true rfl) dX1_move_17 ⟨Nat.zero_le _, Nat.zero_le _⟩ (fun H locs T => ?_)
      have e9 : sp_move G S j x2 = (G, sp_waitOneTick S j) := by unfold sp_move; simp only [if_neg c_5, if_neg c_13]
      exact hw_vret C T (by rw [e9]) dX1_move_20
  · skip
    have e9 : sp_move G S j x2 = (G, S) := by unfold sp_move; simp only [if_pos c_5]
    exact hw_vret C T (by rw [e9]) dX1_move_8
end
end
section
section
variable {l : Launch} {D : va_G} {h a : Nat} {ad : Nat → Nat} {cA : ClassId} {tz : List (ClassId × FieldType)} {G : Nat → Int32} {S : Nat → Nat → Int32} {n : Nat}
/-- reset: its loop, by what is left to do -/
def sp_reset_loop (G : Nat → Int32) : Nat → Nat → (Nat → Nat → Int32) → (Nat → Int32) × (Nat → Nat → Int32)
  | 0, _, S => (upd (upd (upd (upd G 2 0) 3 0) 4 0) 5 (-1), S)
  | k + 1, i, S => sp_reset_loop G k (i + 1) (sp_goBackToPlan S i)
set_option maxHeartbeats 4000000 in
set_option maxRecDepth 100000 in
theorem lp_reset {p : Program} {e : Env} {s : State} {m : MethodId} {args : Array Value} {below : List Frame} {meth : Method} {c : Code} {A : Nat → Prop}  (hG : hg_n G n) (C : hw_C p s m args meth c cX1_reset none 2 wsX1_reset yX1_reset.cls D ((cA, .object RX0) :: tz) A) :
    ∀ (k i : Nat) (S : Nat → Nat → Int32), i + k = n → ∀ (ls : Array Slot) (H : Heap) (locs : List Loc), hw_T D A s.heap (hw_W h a ad cA G S) H locs → lv_has ls 2 [(0, .ref h), (1, .int (nI i))] → W p l e { frames := 3, cells := 0, slots := 0, locals := 61 } s m args below meth c H locs 0 0 (MQ below (va_Qv (fun (_ : Unit) => True) (fun _ t => va_P D vwCl (hw_W h a ad cA (sp_reset_loop G k i S).1 (sp_reset_loop G k i S).2) t.heap) A) args s 0 0 A) (F0 m 2 ls []) := by
  have hx := C.1.1
  have hb := C.1.2.1
  have hml := C.1.2.2.1
  have hown : s.vm.findClass RX1 = some m.cls := C.1.2.2.2.1
  have hts := C.1.2.2.2.2
  have hK := C.2.2.2.1
  have hN := C.2.2.2.2.1
  have hinH : ∀ w ∈ wsX10, w ∈ wsX1_reset := by decide +kernel
  have hn32 := hG.1
  intro k
  induction k with
  | zero =>
    intro i S hik ls H locs T hl
    refine lv_iload_n hx hb dX1_reset_2 rfl (lv_at hl 1 rfl) ?_
    refine lv_aload_n hx hb dX1_reset_3 rfl (lv_at hl 0 rfl) ?_
    refine va_get (D := D) (ci := 1) (v := .int (G 0)) (C := RX1) (T := TX1) (N := 7) hx hb hts hinH hown hK T.1 0 rfl rfl 1 (by decide) (hts (.fieldLink RX1 20 "MoverHall" "sectorCount" "I") (by decide +kernel)) (fun _ h9 => h9) rfl dX1_reset_4 ?_
    refine lv_icmp_ge (tgt := 25) hx hb dX1_reset_7 (by decide) (fun c_7 => ?_) (fun c_7 => absurd (show G 0 ≤ nI i by rw [hG.2]; exact nI_le (show n ≤ i by omega) (by omega)) c_7)
    refine lv_aload_n hx hb dX1_reset_25 rfl (lv_at hl 0 rfl) ?_
    refine lv_iconst (v := 0) hx hb dX1_reset_26 (by decide) ?_
    refine va_put (D := D) (ci := 1) (v := .int 0) (ty := .int) (C := RX1) (T := TX1) (N := 7) hx hb hts hinH tyX1 tyX1_ok nmX1 hown hK T.1 T.2.1 T.2.2 0 rfl rfl 3 (by decide) (hts (.fieldLink RX1 55 "MoverHall" "tickCount" "I") (by decide +kernel)) (fun _ h9 => h9) rfl (by decide +kernel) rfl rfl (Nat.le_of_ble_eq_true rfl) dX1_reset_27 (fun H locs hP hD hS => ?_)
    have T := hw_setH (k := 2) (v := 0) rfl ⟨hP, hD, hS⟩
    refine lv_aload_n hx hb dX1_reset_30 rfl (lv_at hl 0 rfl) ?_
    refine lv_iconst (v := 0) hx hb dX1_reset_31 (by decide) ?_
    refine va_put (D := D) (ci := 1) (v := .int 0) (ty := .int) (C := RX1) (T := TX1) (N := 7) hx hb hts hinH tyX1 tyX1_ok nmX1 hown hK T.1 T.2.1 T.2.2 0 rfl rfl 4 (by decide) (hts (.fieldLink RX1 58 "MoverHall" "moverCount" "I") (by decide +kernel)) (fun _ h9 => h9) rfl (by decide +kernel) rfl rfl (Nat.le_of_ble_eq_true rfl) dX1_reset_32 (fun H locs hP hD hS => ?_)
    have T := hw_setH (k := 3) (v := 0) rfl ⟨hP, hD, hS⟩
    refine lv_aload_n hx hb dX1_reset_35 rfl (lv_at hl 0 rfl) ?_
    refine lv_iconst (v := 0) hx hb dX1_reset_36 (by decide) ?_
    refine va_put (D := D) (ci := 1) (v := .int 0) (ty := .int) (C := RX1) (T := TX1) (N := 7) hx hb hts hinH tyX1 tyX1_ok nmX1 hown hK T.1 T.2.1 T.2.2 0 rfl rfl 5 (by decide) (hts (.fieldLink RX1 61 "MoverHall" "blockedCount" "I") (by decide +kernel)) (fun _ h9 => h9) rfl (by decide +kernel) rfl rfl (Nat.le_of_ble_eq_true rfl) dX1_reset_37 (fun H locs hP hD hS => ?_)
    have T := hw_setH (k := 4) (v := 0) rfl ⟨hP, hD, hS⟩
    refine lv_aload_n hx hb dX1_reset_40 rfl (lv_at hl 0 rfl) ?_
    refine lv_iconst (v := (-1)) hx hb dX1_reset_41 (by decide) ?_
    refine va_put (D := D) (ci := 1) (v := .int (-1)) (ty := .int) (C := RX1) (T := TX1) (N := 7) hx hb hts hinH tyX1 tyX1_ok nmX1 hown hK T.1 T.2.1 T.2.2 0 rfl rfl 6 (by decide) (hts (.fieldLink RX1 16 "MoverHall" "guestSector" "I") (by decide +kernel)) (fun _ h9 => h9) rfl (by decide +kernel) rfl rfl (Nat.le_of_ble_eq_true rfl) dX1_reset_42 (fun H locs hP hD hS => ?_)
    have T := hw_setH (k := 5) (v := (-1)) rfl ⟨hP, hD, hS⟩
    have e9 : sp_reset_loop G 0 i S = (upd (upd (upd (upd G 2 0) 3 0) 4 0) 5 (-1), S) := by rw [sp_reset_loop]
    exact hw_vret C T (by rw [e9]) dX1_reset_45
  | succ k ih =>
    intro i S hik ls H locs T hl
    refine lv_iload_n hx hb dX1_reset_2 rfl (lv_at hl 1 rfl) ?_
    refine lv_aload_n hx hb dX1_reset_3 rfl (lv_at hl 0 rfl) ?_
    refine va_get (D := D) (ci := 1) (v := .int (G 0)) (C := RX1) (T := TX1) (N := 7) hx hb hts hinH hown hK T.1 0 rfl rfl 1 (by decide) (hts (.fieldLink RX1 20 "MoverHall" "sectorCount" "I") (by decide +kernel)) (fun _ h9 => h9) rfl dX1_reset_4 ?_
    refine lv_icmp_ge (tgt := 25) hx hb dX1_reset_7 (by decide) (fun c_7 => absurd c_7 (show ¬ G 0 ≤ nI i by rw [hG.2]; exact nI_ge (show i < n by omega) (by omega))) (fun c_7 => ?_)
    refine lv_aload_n hx hb dX1_reset_10 rfl (lv_at hl 0 rfl) ?_
    refine va_get (D := D) (ci := 1) (v := .ref a) (C := RX1) (T := TX1) (N := 7) hx hb hts hinH hown hK T.1 0 rfl rfl 0 (by decide) (hts (.fieldLink RX1 11 "MoverHall" "sectors" "[LMoverHall$Sector;") (by decide +kernel)) (fun _ h9 => h9) rfl dX1_reset_11 ?_
    refine lv_iload_n hx hb dX1_reset_14 rfl (lv_at hl 1 rfl) ?_
    have h_15 : vp_in (nI i) 32 := vp_in_nI (show i < 32 by omega) (by decide)
    refine va_aldq hx hb hK T.1 1 0 rfl rfl h_15 dX1_reset_15 ?_
    refine W.eq (g2 := F0 m 16 ls [.ref (ad i)]) (by rw [nI_clamp (show i < 2 ^ 31 by omega)] <;> rfl) ?_
    refine hw_Nv (As := []) (rest := []) C T (c_S_goBackToPlan (show i < 32 by omega)) ⟨va_cnB 0 hts gX1_reset_X0_goBackToPlan_n52 rfl rfl rfl (hN (.methodLinkNest RX1 52 yX0_goBackToPlan "MoverHall") (by decide +kernel)) (hts (.initialized RX0) (by decide +kernel)) (by decide +kernel) ⟨Nat.le_of_ble_eq_true rfl, Nat.le_of_ble_eq_true rfl⟩, hts (.instanceMethod yX0_goBackToPlan) (by decide +kernel), hts (.selects RX0 yX0_goBackToPlan yX0_goBackToPlan) (by decide +kernel)⟩ (hw_isS (show i < 32 by omega)) hw_ad rfl hl.1 rfl (Nat.le_of_ble_eq_true rfl) dX1_reset_16 ⟨Nat.zero_le _, Nat.zero_le _⟩ (fun H locs T => ?_)
    refine lv_iinc (v := nI (i + 1)) (lv' := [(1, .int (nI (i + 1))), (0, .ref h)]) hx hb dX1_reset_19 hl (k := 1) rfl (nI_1 i) (by decide) rfl (fun ls hl => ?_)
    refine lv_goto (tgt := 2) hx hb dX1_reset_22 (by decide) ?_
    rw [show sp_reset_loop G (k + 1) i S = sp_reset_loop G k (i + 1) (sp_goBackToPlan S i) from by rw [sp_reset_loop]]
    exact ih (i + 1) _ (by omega) _ _ _ T (lv_sub hl [1, 0] rfl)
/-- reset, its picture -/
def sp_reset (G : Nat → Int32) (S : Nat → Nat → Int32) (n : Nat) : (Nat → Int32) × (Nat → Nat → Int32) := sp_reset_loop G n 0 S
set_option maxHeartbeats 4000000 in
set_option maxRecDepth 100000 in
theorem c_H_reset  (hG : hg_n G n) : MV l D ((cA, .object RX0) :: tz) yX1_reset wsX1_reset { frames := 3, cells := 0, slots := 0, locals := 61 } [.ref h] (hw_W h a ad cA G S) (hw_W h a ad cA (sp_reset G S n).1 (sp_reset G S n).2) := by
  refine MV.start (cc := cX1_reset) (maxL := 2) (by decide) rfl (Nat.le_of_ble_eq_true rfl) (fun p e s m args below meth c A ls C T hl => ?_)
  have hx := C.1.1
  have hb := C.1.2.1
  have hml := C.1.2.2.1
  have hown : s.vm.findClass RX1 = some m.cls := C.1.2.2.2.1
  have hts := C.1.2.2.2.2
  have hK := C.2.2.2.1
  have hN := C.2.2.2.2.1
  have hinH : ∀ w ∈ wsX10, w ∈ wsX1_reset := by decide +kernel
  have hn32 := hG.1
  have hl : lv_has ls 2 [(0, .ref h)] := hl
  refine lv_iconst (v := 0) hx hb dX1_reset_0 (by decide) ?_
  refine lv_istore_n (lv' := [(1, .int 0), (0, .ref h)]) hx hb dX1_reset_1 rfl hl (by decide) rfl (fun ls hl => ?_)
  rw [show sp_reset G S n = sp_reset_loop G n 0 S from by rfl]
  exact lp_reset hG C n 0 _ (by omega) _ _ _ T (lv_sub hl [1, 0] rfl)
/-- clear, its picture -/
def sp_clear (G : Nat → Int32) (S : Nat → Nat → Int32) (n : Nat) : (Nat → Int32) × (Nat → Nat → Int32) := ((sp_reset (upd (upd G 0 0) 1 0) S 0).1, (sp_reset (upd (upd G 0 0) 1 0) S 0).2)
set_option maxHeartbeats 4000000 in
set_option maxRecDepth 100000 in
theorem c_H_clear  (hG : hg_n G n) : MV l D ((cA, .object RX0) :: tz) yX1_clear wsX1_clear { frames := 4, cells := 0, slots := 0, locals := 82 } [.ref h] (hw_W h a ad cA G S) (hw_W h a ad cA (sp_clear G S n).1 (sp_clear G S n).2) := by
  refine MV.start (cc := cX1_clear) (maxL := 1) (by decide) rfl (Nat.le_of_ble_eq_true rfl) (fun p e s m args below meth c A ls C T hl => ?_)
  have hx := C.1.1
  have hb := C.1.2.1
  have hml := C.1.2.2.1
  have hown : s.vm.findClass RX1 = some m.cls := C.1.2.2.2.1
  have hts := C.1.2.2.2.2
  have hK := C.2.2.2.1
  have hinH : ∀ w ∈ wsX10, w ∈ wsX1_clear := by decide +kernel
  have hn32 := hG.1
  have hl : lv_has ls 1 [(0, .ref h)] := hl
  refine lv_aload_n hx hb dX1_clear_0 rfl (lv_at hl 0 rfl) ?_
  refine lv_iconst (v := 0) hx hb dX1_clear_1 (by decide) ?_
  refine va_put (D := D) (ci := 1) (v := .int 0) (ty := .int) (C := RX1) (T := TX1) (N := 7) hx hb hts hinH tyX1 tyX1_ok nmX1 hown hK T.1 T.2.1 T.2.2 0 rfl rfl 1 (by decide) (hts (.fieldLink RX1 20 "MoverHall" "sectorCount" "I") (by decide +kernel)) (fun _ h9 => h9) rfl (by decide +kernel) rfl rfl (Nat.le_of_ble_eq_true rfl) dX1_clear_2 (fun H locs hP hD hS => ?_)
  have T := hw_setH (k := 0) (v := 0) rfl ⟨hP, hD, hS⟩
  refine lv_aload_n hx hb dX1_clear_5 rfl (lv_at hl 0 rfl) ?_
  refine lv_iconst (v := 0) hx hb dX1_clear_6 (by decide) ?_
  refine va_put (D := D) (ci := 1) (v := .int 0) (ty := .int) (C := RX1) (T := TX1) (N := 7) hx hb hts hinH tyX1 tyX1_ok nmX1 hown hK T.1 T.2.1 T.2.2 0 rfl rfl 2 (by decide) (hts (.fieldLink RX1 49 "MoverHall" "pairCount" "I") (by decide +kernel)) (fun _ h9 => h9) rfl (by decide +kernel) rfl rfl (Nat.le_of_ble_eq_true rfl) dX1_clear_7 (fun H locs hP hD hS => ?_)
  have T := hw_setH (k := 1) (v := 0) rfl ⟨hP, hD, hS⟩
  refine lv_aload_n hx hb dX1_clear_10 rfl (lv_at hl 0 rfl) ?_
  refine hw_Vv (As := []) (rest := []) C T (c_H_reset (hg_up (by decide) (hg_0 (G := G)))) (cwV 0 hts gX1_clear_X1_reset rfl rfl rfl (by decide +kernel) ⟨Nat.le_of_ble_eq_true rfl, Nat.le_of_ble_eq_true rfl⟩) hw_isH hw_ad rfl hl.1 rfl (Nat.le_of_ble_eq_true rfl) dX1_clear_11 ⟨Nat.zero_le _, Nat.zero_le _⟩ (fun H locs T => ?_)
  have e9 : sp_clear G S n = ((sp_reset (upd (upd G 0 0) 1 0) S 0).1, (sp_reset (upd (upd G 0 0) 1 0) S 0).2) := by rfl
  exact hw_vret C T (by rw [e9]) dX1_clear_14
/-- passOneTick: its loop, by what is left to do -/
def sp_passOneTick_loop  : Nat → Nat → (Nat → Int32) → (Nat → Nat → Int32) → (Nat → Int32) × (Nat → Nat → Int32)
  | 0, _, G, S => (G, S)
  | k + 1, i, G, S => if (nI i) = (G 5) then (sp_passOneTick_loop k (i + 1) ((sp_move G S i 1).1) ((sp_move G S i 1).2)) else (sp_passOneTick_loop k (i + 1) ((sp_move G S i 0).1) ((sp_move G S i 0).2))
set_option maxHeartbeats 4000000 in
set_option maxRecDepth 100000 in
theorem lp_passOneTick {p : Program} {e : Env} {s : State} {m : MethodId} {args : Array Value} {below : List Frame} {meth : Method} {c : Code} {A : Nat → Prop}   (C : hw_C p s m args meth c cX1_passOneTick none 2 wsX1_passOneTick yX1_passOneTick.cls D ((cA, .object RX0) :: tz) A) :
    ∀ (k i : Nat) (G : Nat → Int32) (S : Nat → Nat → Int32), i + k = n → hg_n G n → ∀ (ls : Array Slot) (H : Heap) (locs : List Loc), hw_T D A s.heap (hw_W h a ad cA G S) H locs → lv_has ls 2 [(0, .ref h), (1, .int (nI i))] → W p l e { frames := 6, cells := 0, slots := 0, locals := 131 } s m args below meth c H locs 0 0 (MQ below (va_Qv (fun (_ : Unit) => True) (fun _ t => va_P D vwCl (hw_W h a ad cA (sp_passOneTick_loop k i G S).1 (sp_passOneTick_loop k i G S).2) t.heap) A) args s 0 0 A) (F0 m 20 ls []) := by
  have hx := C.1.1
  have hb := C.1.2.1
  have hml := C.1.2.2.1
  have hown : s.vm.findClass RX1 = some m.cls := C.1.2.2.2.1
  have hts := C.1.2.2.2.2
  have hK := C.2.2.2.1
  have hinH : ∀ w ∈ wsX10, w ∈ wsX1_passOneTick := by decide +kernel
  intro k
  induction k with
  | zero =>
    intro i G S hik hG ls H locs T hl
    have hn32 := hG.1
    refine lv_iload_n hx hb dX1_passOneTick_20 rfl (lv_at hl 1 rfl) ?_
    refine lv_aload_n hx hb dX1_passOneTick_21 rfl (lv_at hl 0 rfl) ?_
    refine va_get (D := D) (ci := 1) (v := .int (G 0)) (C := RX1) (T := TX1) (N := 7) hx hb hts hinH hown hK T.1 0 rfl rfl 1 (by decide) (hts (.fieldLink RX1 20 "MoverHall" "sectorCount" "I") (by decide +kernel)) (fun _ h9 => h9) rfl dX1_passOneTick_22 ?_
    refine lv_icmp_ge (tgt := 57) hx hb dX1_passOneTick_25 (by decide) (fun c_25 => ?_) (fun c_25 => absurd (show G 0 ≤ nI i by rw [hG.2]; exact nI_le (show n ≤ i by omega) (by omega)) c_25)
    have e9 : sp_passOneTick_loop 0 i G S = (G, S) := by rw [sp_passOneTick_loop]
    exact hw_vret C T (by rw [e9]) dX1_passOneTick_57
  | succ k ih =>
    intro i G S hik hG ls H locs T hl
    have hn32 := hG.1
    refine lv_iload_n hx hb dX1_passOneTick_20 rfl (lv_at hl 1 rfl) ?_
    refine lv_aload_n hx hb dX1_passOneTick_21 rfl (lv_at hl 0 rfl) ?_
    refine va_get (D := D) (ci := 1) (v := .int (G 0)) (C := RX1) (T := TX1) (N := 7) hx hb hts hinH hown hK T.1 0 rfl rfl 1 (by decide) (hts (.fieldLink RX1 20 "MoverHall" "sectorCount" "I") (by decide +kernel)) (fun _ h9 => h9) rfl dX1_passOneTick_22 ?_
    refine lv_icmp_ge (tgt := 57) hx hb dX1_passOneTick_25 (by decide) (fun c_25 => absurd c_25 (show ¬ G 0 ≤ nI i by rw [hG.2]; exact nI_ge (show i < n by omega) (by omega))) (fun c_25 => ?_)
    refine lv_aload_n hx hb dX1_passOneTick_28 rfl (lv_at hl 0 rfl) ?_
    refine lv_aload_n hx hb dX1_passOneTick_29 rfl (lv_at hl 0 rfl) ?_
    refine va_get (D := D) (ci := 1) (v := .ref a) (C := RX1) (T := TX1) (N := 7) hx hb hts hinH hown hK T.1 0 rfl rfl 0 (by decide) (hts (.fieldLink RX1 11 "MoverHall" "sectors" "[LMoverHall$Sector;") (by decide +kernel)) (fun _ h9 => h9) rfl dX1_passOneTick_30 ?_
    refine lv_iload_n hx hb dX1_passOneTick_33 rfl (lv_at hl 1 rfl) ?_
    have h_34 : vp_in (nI i) 32 := vp_in_nI (show i < 32 by omega) (by decide)
    refine va_aldq hx hb hK T.1 1 0 rfl rfl h_34 dX1_passOneTick_34 ?_
    refine W.eq (g2 := F0 m 35 ls [.ref (ad i), .ref h]) (by rw [nI_clamp (show i < 2 ^ 31 by omega)] <;> rfl) ?_
    refine lv_iload_n hx hb dX1_passOneTick_35 rfl (lv_at hl 1 rfl) ?_
    refine lv_aload_n hx hb dX1_passOneTick_36 rfl (lv_at hl 0 rfl) ?_
    refine va_get (D := D) (ci := 1) (v := .int (G 5)) (C := RX1) (T := TX1) (N := 7) hx hb hts hinH hown hK T.1 0 rfl rfl 6 (by decide) (hts (.fieldLink RX1 16 "MoverHall" "guestSector" "I") (by decide +kernel)) (fun _ h9 => h9) rfl dX1_passOneTick_37 ?_
    refine lv_icmp_ne (tgt := 47) hx hb dX1_passOneTick_40 (by decide) (fun c_40 => ?_) (fun c_40 => ?_)
    · skip
      refine lv_iconst (v := 0) hx hb dX1_passOneTick_47 (by decide) ?_
      refine hw_Vv (As := [.ref (ad i), .int 0]) (rest := []) C T (c_H_move (show i < 32 by omega)) (cwV 2 hts gX1_passOneTick_X1_move rfl rfl rfl (by decide +kernel) ⟨Nat.le_of_ble_eq_true rfl, Nat.le_of_ble_eq_true rfl⟩) hw_isH hw_ad rfl hl.1 rfl (Nat.le_of_ble_eq_true rfl) dX1_passOneTick_48 ⟨Nat.zero_le _, Nat.zero_le _⟩ (fun H locs T => ?_)
      refine lv_iinc (v := nI (i + 1)) (lv' := [(1, .int (nI (i + 1))), (0, .ref h)]) hx hb dX1_passOneTick_51 hl (k := 1) rfl (nI_1 i) (by decide) rfl (fun ls hl => ?_)
      refine lv_goto (tgt := 20) hx hb dX1_passOneTick_54 (by decide) ?_
      rw [show sp_passOneTick_loop (k + 1) i G S = sp_passOneTick_loop k (i + 1) ((sp_move G S i 0).1) ((sp_move G S i 0).2) from by rw [sp_passOneTick_loop]; simp only [if_neg c_40]]
      exact ih (i + 1) _ _ (by omega) (sp_move_n hG) _ _ _ T (lv_sub hl [1, 0] rfl)
    · skip
      refine lv_iconst (v := 1) hx hb dX1_passOneTick_43 (by decide) ?_
      refine lv_goto (tgt := 48) hx hb dX1_passOneTick_44 (by decide) ?_
      refine hw_Vv (As := [.ref (ad i), .int 1]) (rest := []) C T (c_H_move (show i < 32 by omega)) (cwV 2 hts gX1_passOneTick_X1_move rfl rfl rfl (by decide +kernel) ⟨Nat.le_of_ble_eq_true rfl, Nat.le_of_ble_eq_true rfl⟩) hw_isH hw_ad rfl hl.1 rfl (Nat.le_of_ble_eq_true rfl) dX1_passOneTick_48 ⟨Nat.zero_le _, Nat.zero_le _⟩ (fun H locs T => ?_)
      refine lv_iinc (v := nI (i + 1)) (lv' := [(1, .int (nI (i + 1))), (0, .ref h)]) hx hb dX1_passOneTick_51 hl (k := 1) rfl (nI_1 i) (by decide) rfl (fun ls hl => ?_)
      refine lv_goto (tgt := 20) hx hb dX1_passOneTick_54 (by decide) ?_
      rw [show sp_passOneTick_loop (k + 1) i G S = sp_passOneTick_loop k (i + 1) ((sp_move G S i 1).1) ((sp_move G S i 1).2) from by rw [sp_passOneTick_loop]; simp only [if_pos c_40]]
      exact ih (i + 1) _ _ (by omega) (sp_move_n hG) _ _ _ T (lv_sub hl [1, 0] rfl)
/-- passOneTick, its picture -/
def sp_passOneTick (G : Nat → Int32) (S : Nat → Nat → Int32) (n : Nat) : (Nat → Int32) × (Nat → Nat → Int32) := if ((upd G 2 ((G 2) + 1)) 3) = 0 then (upd G 2 ((G 2) + 1), S) else (sp_passOneTick_loop n 0 (upd G 2 ((G 2) + 1)) S)
theorem sp_passOneTick_loop_0 : ∀ (k i : Nat) (G : Nat → Int32) (S : Nat → Nat → Int32), (sp_passOneTick_loop k i G S).1 0 = G 0 := by
  intro k
  induction k with
  | zero => intro i G S; rfl
  | succ k ih =>
    intro i G S
    rw [sp_passOneTick_loop]
    split
    · rw [ih, sp_move_0]
    · rw [ih, sp_move_0]
theorem sp_passOneTick_0 {G : Nat → Int32} {S : Nat → Nat → Int32} {n : Nat} : (sp_passOneTick G S n).1 0 = G 0 := by
  unfold sp_passOneTick
  split
  · rfl
  · rw [sp_passOneTick_loop_0]; rfl
theorem sp_passOneTick_n {G : Nat → Int32} {S : Nat → Nat → Int32} {n : Nat} (h : hg_n G n) : hg_n (sp_passOneTick G S n).1 n := ⟨h.1, by rw [sp_passOneTick_0]; exact h.2⟩
set_option maxHeartbeats 4000000 in
set_option maxRecDepth 100000 in
theorem c_H_passOneTick  (hG : hg_n G n) : MV l D ((cA, .object RX0) :: tz) yX1_passOneTick wsX1_passOneTick { frames := 6, cells := 0, slots := 0, locals := 131 } [.ref h] (hw_W h a ad cA G S) (hw_W h a ad cA (sp_passOneTick G S n).1 (sp_passOneTick G S n).2) := by
  refine MV.start (cc := cX1_passOneTick) (maxL := 2) (by decide) rfl (Nat.le_of_ble_eq_true rfl) (fun p e s m args below meth c A ls C T hl => ?_)
  have hx := C.1.1
  have hb := C.1.2.1
  have hml := C.1.2.2.1
  have hown : s.vm.findClass RX1 = some m.cls := C.1.2.2.2.1
  have hts := C.1.2.2.2.2
  have hK := C.2.2.2.1
  have hinH : ∀ w ∈ wsX10, w ∈ wsX1_passOneTick := by decide +kernel
  have hn32 := hG.1
  have hl : lv_has ls 2 [(0, .ref h)] := hl
  refine lv_aload_n hx hb dX1_passOneTick_0 rfl (lv_at hl 0 rfl) ?_
  refine lv_dup hx hb dX1_passOneTick_1 rfl ?_
  refine va_get (D := D) (ci := 1) (v := .int (G 2)) (C := RX1) (T := TX1) (N := 7) hx hb hts hinH hown hK T.1 0 rfl rfl 3 (by decide) (hts (.fieldLink RX1 55 "MoverHall" "tickCount" "I") (by decide +kernel)) (fun _ h9 => h9) rfl dX1_passOneTick_2 ?_
  refine lv_iconst (v := 1) hx hb dX1_passOneTick_5 (by decide) ?_
  refine lv_iadd hx hb dX1_passOneTick_6 ?_
  refine va_put (D := D) (ci := 1) (v := .int ((G 2) + 1)) (ty := .int) (C := RX1) (T := TX1) (N := 7) hx hb hts hinH tyX1 tyX1_ok nmX1 hown hK T.1 T.2.1 T.2.2 0 rfl rfl 3 (by decide) (hts (.fieldLink RX1 55 "MoverHall" "tickCount" "I") (by decide +kernel)) (fun _ h9 => h9) rfl (by decide +kernel) rfl rfl (Nat.le_of_ble_eq_true rfl) dX1_passOneTick_7 (fun H locs hP hD hS => ?_)
  have T := hw_setH (k := 2) (v := (G 2) + 1) rfl ⟨hP, hD, hS⟩
  refine lv_aload_n hx hb dX1_passOneTick_10 rfl (lv_at hl 0 rfl) ?_
  refine va_get (D := D) (ci := 1) (v := .int ((upd G 2 ((G 2) + 1)) 3)) (C := RX1) (T := TX1) (N := 7) hx hb hts hinH hown hK T.1 0 rfl rfl 4 (by decide) (hts (.fieldLink RX1 58 "MoverHall" "moverCount" "I") (by decide +kernel)) (fun _ h9 => h9) rfl dX1_passOneTick_11 ?_
  refine lv_if_ne (tgt := 18) hx hb dX1_passOneTick_14 (by decide) (fun c_14 => ?_) (fun c_14 => ?_)
  · skip
    refine lv_iconst (v := 0) hx hb dX1_passOneTick_18 (by decide) ?_
    refine lv_istore_n (lv' := [(1, .int 0), (0, .ref h)]) hx hb dX1_passOneTick_19 rfl hl (by decide) rfl (fun ls hl => ?_)
    rw [show sp_passOneTick G S n = sp_passOneTick_loop n 0 (upd G 2 ((G 2) + 1)) S from by unfold sp_passOneTick; simp only [if_neg c_14]]
    exact lp_passOneTick C n 0 _ _ (by omega) (hg_up (by decide) hG) _ _ _ T (lv_sub hl [1, 0] rfl)
  · skip
    have e9 : sp_passOneTick G S n = (upd G 2 ((G 2) + 1), S) := by unfold sp_passOneTick; simp only [if_pos c_14]
    exact hw_vret C T (by rw [e9]) dX1_passOneTick_17
/-- sector, its picture -/
def sp_sector (G : Nat → Int32) (S : Nat → Nat → Int32) (n : Nat) (x1 : Int32) (x2 : Int32) (x3 : Int32) (x4 : Int32) (x5 : Int32) : Int32 × (Nat → Int32) × (Nat → Nat → Int32) := if 32 ≤ (G 0) then ((-1), G, S) else (if (sp_isShape x1 x2) = 0 then ((-1), G, S) else (if (sp_isWithin x3 0 15) = 0 then ((-1), G, S) else (if (sp_isWithin x4 0 3) = 0 then ((-1), G, S) else (if (sp_isWithin x5 0 255) = 0 then ((-1), G, S) else (G 0, (sp_reset (upd G 0 ((G 0) + 1)) (sp_plan S ((G 0).toNatClampNeg) x1 x2 x3 x4 x5) (n + 1)).1, (sp_reset (upd G 0 ((G 0) + 1)) (sp_plan S ((G 0).toNatClampNeg) x1 x2 x3 x4 x5) (n + 1)).2)))))
set_option maxHeartbeats 4000000 in
set_option maxRecDepth 100000 in
theorem c_H_sector {x1 : Int32} {x2 : Int32} {x3 : Int32} {x4 : Int32} {x5 : Int32} (hG : hg_n G n) : MI l D ((cA, .object RX0) :: tz) yX1_sector wsX1_sector { frames := 4, cells := 0, slots := 0, locals := 82 } [.ref h, .int x1, .int x2, .int x3, .int x4, .int x5] (hw_W h a ad cA G S) ((sp_sector G S n x1 x2 x3 x4 x5).1) (hw_W h a ad cA (sp_sector G S n x1 x2 x3 x4 x5).2.1 (sp_sector G S n x1 x2 x3 x4 x5).2.2) := by
  refine MI.start (cc := cX1_sector) (maxL := 7) (by decide) rfl (Nat.le_of_ble_eq_true rfl) (fun p e s m args below meth c A ls C T hl => ?_)
  have hx := C.1.1
  have hb := C.1.2.1
  have hml := C.1.2.2.1
  have hown : s.vm.findClass RX1 = some m.cls := C.1.2.2.2.1
  have hts := C.1.2.2.2.2
  have hK := C.2.2.2.1
  have hN := C.2.2.2.2.1
  have hinH : ∀ w ∈ wsX10, w ∈ wsX1_sector := by decide +kernel
  have hn32 := hG.1
  have hl : lv_has ls 7 [(0, .ref h), (1, .int x1), (2, .int x2), (3, .int x3), (4, .int x4), (5, .int x5)] := hl
  refine lv_aload_n hx hb dX1_sector_0 rfl (lv_at hl 0 rfl) ?_
  refine va_get (D := D) (ci := 1) (v := .int (G 0)) (C := RX1) (T := TX1) (N := 7) hx hb hts hinH hown hK T.1 0 rfl rfl 1 (by decide) (hts (.fieldLink RX1 20 "MoverHall" "sectorCount" "I") (by decide +kernel)) (fun _ h9 => h9) rfl dX1_sector_1 ?_
  refine lv_bipush (v := 32) hx hb dX1_sector_4 (by decide) ?_
  refine lv_icmp_ge (tgt := 49) hx hb dX1_sector_6 (by decide) (fun c_6 => ?_) (fun c_6 => ?_)
  · skip
    refine lv_iconst (v := (-1)) hx hb dX1_sector_49 (by decide) ?_
    have e9 : sp_sector G S n x1 x2 x3 x4 x5 = ((-1), G, S) := by unfold sp_sector; simp only [if_pos c_6]
    exact hw_iret C T rfl (by rw [e9]) (by rw [e9]) dX1_sector_50
  · skip
    refine lv_iload_n hx hb dX1_sector_9 rfl (lv_at hl 1 rfl) ?_
    refine lv_iload_n hx hb dX1_sector_10 rfl (lv_at hl 2 rfl) ?_
    refine hw_Si (As := [.int x1, .int x2]) (rest := []) C T (c_H_isShape) (va_cwS 2 hts gX1_sector_X1_isShape rfl rfl rfl (by decide +kernel) ⟨Nat.le_of_ble_eq_true rfl, Nat.le_of_ble_eq_true rfl⟩) hw_ad rfl hl.1 rfl (Nat.le_of_ble_eq_true rfl) dX1_sector_11 ⟨Nat.zero_le _, Nat.zero_le _⟩ (fun H locs T => ?_)
    refine lv_if_eq (tgt := 49) hx hb dX1_sector_14 (by decide) (fun c_14 => ?_) (fun c_14 => ?_)
    · skip
      refine lv_iconst (v := (-1)) hx hb dX1_sector_49 (by decide) ?_
      have e9 : sp_sector G S n x1 x2 x3 x4 x5 = ((-1), G, S) := by unfold sp_sector; simp only [if_neg c_6, if_pos c_14]
      exact hw_iret C T rfl (by rw [e9]) (by rw [e9]) dX1_sector_50
    · skip
      refine lv_iload_n hx hb dX1_sector_17 rfl (lv_at hl 3 rfl) ?_
      refine lv_iconst (v := 0) hx hb dX1_sector_18 (by decide) ?_
      refine lv_bipush (v := 15) hx hb dX1_sector_19 (by decide) ?_
      refine hw_Si (As := [.int x3, .int 0, .int 15]) (rest := []) C T (c_H_isWithin) (va_cwS 3 hts gX1_sector_X1_isWithin rfl rfl rfl (by decide +kernel) ⟨Nat.le_of_ble_eq_true rfl, Nat.le_of_ble_eq_true rfl⟩) hw_ad rfl hl.1 rfl (Nat.le_of_ble_eq_true rfl) dX1_sector_21 ⟨Nat.zero_le _, Nat.zero_le _⟩ (fun H locs T => ?_)
      refine lv_if_eq (tgt := 49) hx hb dX1_sector_24 (by decide) (fun c_24 => ?_) (fun c_24 => ?_)
      · skip
        refine lv_iconst (v := (-1)) hx hb dX1_sector_49 (by decide) ?_
        have e9 : sp_sector G S n x1 x2 x3 x4 x5 = ((-1), G, S) := by unfold sp_sector; simp only [if_neg c_6, if_neg c_14, if_pos c_24]
        exact hw_iret C T rfl (by rw [e9]) (by rw [e9]) dX1_sector_50
      · skip
        refine lv_iload hx hb dX1_sector_27 (lv_at hl 4 rfl) ?_
        refine lv_iconst (v := 0) hx hb dX1_sector_29 (by decide) ?_
        refine lv_iconst (v := 3) hx hb dX1_sector_30 (by decide) ?_
        refine hw_Si (As := [.int x4, .int 0, .int 3]) (rest := []) C T (c_H_isWithin) (va_cwS 3 hts gX1_sector_X1_isWithin rfl rfl rfl (by decide +kernel) ⟨Nat.le_of_ble_eq_true rfl, Nat.le_of_ble_eq_true rfl⟩) hw_ad rfl hl.1 rfl (Nat.le_of_ble_eq_true rfl) dX1_sector_31 ⟨Nat.zero_le _, Nat.zero_le _⟩ (fun H locs T => ?_)
        refine lv_if_eq (tgt := 49) hx hb dX1_sector_34 (by decide) (fun c_34 => ?_) (fun c_34 => ?_)
        · skip
          refine lv_iconst (v := (-1)) hx hb dX1_sector_49 (by decide) ?_
          have e9 : sp_sector G S n x1 x2 x3 x4 x5 = ((-1), G, S) := by unfold sp_sector; simp only [if_neg c_6, if_neg c_14, if_neg c_24, if_pos c_34]
          exact hw_iret C T rfl (by rw [e9]) (by rw [e9]) dX1_sector_50
        · skip
          refine lv_iload hx hb dX1_sector_37 (lv_at hl 5 rfl) ?_
          refine lv_iconst (v := 0) hx hb dX1_sector_39 (by decide) ?_
          refine lv_sipush (v := 255) hx hb dX1_sector_40 (by decide) ?_
          refine hw_Si (As := [.int x5, .int 0, .int 255]) (rest := []) C T (c_H_isWithin) (va_cwS 3 hts gX1_sector_X1_isWithin rfl rfl rfl (by decide +kernel) ⟨Nat.le_of_ble_eq_true rfl, Nat.le_of_ble_eq_true rfl⟩) hw_ad rfl hl.1 rfl (Nat.le_of_ble_eq_true rfl) dX1_sector_43 ⟨Nat.zero_le _, Nat.zero_le _⟩ (fun H locs T => ?_)
          refine lv_if_ne (tgt := 51) hx hb dX1_sector_46 (by decide) (fun c_46 => ?_) (fun c_46 => ?_)
          · skip
            refine lv_aload_n hx hb dX1_sector_51 rfl (lv_at hl 0 rfl) ?_
            refine va_get (D := D) (ci := 1) (v := .int (G 0)) (C := RX1) (T := TX1) (N := 7) hx hb hts hinH hown hK T.1 0 rfl rfl 1 (by decide) (hts (.fieldLink RX1 20 "MoverHall" "sectorCount" "I") (by decide +kernel)) (fun _ h9 => h9) rfl dX1_sector_52 ?_
            refine lv_istore (lv' := [(6, .int (G 0)), (0, .ref h), (1, .int x1), (2, .int x2), (3, .int x3), (4, .int x4), (5, .int x5)]) hx hb dX1_sector_55 hl (by decide) rfl (fun ls hl => ?_)
            refine lv_aload_n hx hb dX1_sector_57 rfl (lv_at hl 1 rfl) ?_
            refine va_get (D := D) (ci := 1) (v := .ref a) (C := RX1) (T := TX1) (N := 7) hx hb hts hinH hown hK T.1 0 rfl rfl 0 (by decide) (hts (.fieldLink RX1 11 "MoverHall" "sectors" "[LMoverHall$Sector;") (by decide +kernel)) (fun _ h9 => h9) rfl dX1_sector_58 ?_
            refine lv_iload hx hb dX1_sector_61 (lv_at hl 0 rfl) ?_
            have h_63 : vp_in (G 0) 32 := (sx_in0 hG c_6)
            refine va_aldq hx hb hK T.1 1 0 rfl rfl h_63 dX1_sector_63 ?_
            refine W.eq (g2 := F0 m 64 ls [.ref (ad ((G 0).toNatClampNeg))]) rfl ?_
            refine lv_iload_n hx hb dX1_sector_64 rfl (lv_at hl 2 rfl) ?_
            refine lv_iload_n hx hb dX1_sector_65 rfl (lv_at hl 3 rfl) ?_
            refine lv_iload_n hx hb dX1_sector_66 rfl (lv_at hl 4 rfl) ?_
            refine lv_iload hx hb dX1_sector_67 (lv_at hl 5 rfl) ?_
            refine lv_iload hx hb dX1_sector_69 (lv_at hl 6 rfl) ?_
            refine hw_Nv (As := [.int x1, .int x2, .int x3, .int x4, .int x5]) (rest := []) C T (c_S_plan (sx_lt h_63)) ⟨va_cnB 5 hts gX1_sector_X0_plan_n31 rfl rfl rfl (hN (.methodLinkNest RX1 31 yX0_plan "MoverHall") (by decide +kernel)) (hts (.initialized RX0) (by decide +kernel)) (by decide +kernel) ⟨Nat.le_of_ble_eq_true rfl, Nat.le_of_ble_eq_true rfl⟩, hts (.instanceMethod yX0_plan) (by decide +kernel), hts (.selects RX0 yX0_plan yX0_plan) (by decide +kernel)⟩ (hw_isS (sx_lt h_63)) hw_ad rfl hl.1 rfl (Nat.le_of_ble_eq_true rfl) dX1_sector_71 ⟨Nat.zero_le _, Nat.zero_le _⟩ (fun H locs T => ?_)
            refine lv_aload_n hx hb dX1_sector_74 rfl (lv_at hl 1 rfl) ?_
            refine lv_dup hx hb dX1_sector_75 rfl ?_
            refine va_get (D := D) (ci := 1) (v := .int (G 0)) (C := RX1) (T := TX1) (N := 7) hx hb hts hinH hown hK T.1 0 rfl rfl 1 (by decide) (hts (.fieldLink RX1 20 "MoverHall" "sectorCount" "I") (by decide +kernel)) (fun _ h9 => h9) rfl dX1_sector_76 ?_
            refine lv_iconst (v := 1) hx hb dX1_sector_79 (by decide) ?_
            refine lv_iadd hx hb dX1_sector_80 ?_
            refine va_put (D := D) (ci := 1) (v := .int ((G 0) + 1)) (ty := .int) (C := RX1) (T := TX1) (N := 7) hx hb hts hinH tyX1 tyX1_ok nmX1 hown hK T.1 T.2.1 T.2.2 0 rfl rfl 1 (by decide) (hts (.fieldLink RX1 20 "MoverHall" "sectorCount" "I") (by decide +kernel)) (fun _ h9 => h9) rfl (by decide +kernel) rfl rfl (Nat.le_of_ble_eq_true rfl) dX1_sector_81 (fun H locs hP hD hS => ?_)
            have T := hw_setH (k := 0) (v := (G 0) + 1) rfl ⟨hP, hD, hS⟩
            refine lv_aload_n hx hb dX1_sector_84 rfl (lv_at hl 1 rfl) ?_
            refine hw_Vv (As := []) (rest := []) C T (c_H_reset (hg_1 hG c_6)) (cwV 0 hts gX1_sector_X1_reset rfl rfl rfl (by decide +kernel) ⟨Nat.le_of_ble_eq_true rfl, Nat.le_of_ble_eq_true rfl⟩) hw_isH hw_ad rfl hl.1 rfl (Nat.le_of_ble_eq_true rfl) dX1_sector_85 ⟨Nat.zero_le _, Nat.zero_le _⟩ (fun H locs T => ?_)
            refine lv_iload hx hb dX1_sector_88 (lv_at hl 0 rfl) ?_
            have e9 : sp_sector G S n x1 x2 x3 x4 x5 = (G 0, (sp_reset (upd G 0 ((G 0) + 1)) (sp_plan S ((G 0).toNatClampNeg) x1 x2 x3 x4 x5) (n + 1)).1, (sp_reset (upd G 0 ((G 0) + 1)) (sp_plan S ((G 0).toNatClampNeg) x1 x2 x3 x4 x5) (n + 1)).2) := by unfold sp_sector; simp only [if_neg c_6, if_neg c_14, if_neg c_24, if_neg c_34, if_neg c_46]
            exact hw_iret C T rfl (by rw [e9]) (by rw [e9]) dX1_sector_90
          · skip
            refine lv_iconst (v := (-1)) hx hb dX1_sector_49 (by decide) ?_
            have e9 : sp_sector G S n x1 x2 x3 x4 x5 = ((-1), G, S) := by unfold sp_sector; simp only [if_neg c_6, if_neg c_14, if_neg c_24, if_neg c_34, if_pos c_46]
            exact hw_iret C T rfl (by rw [e9]) (by rw [e9]) dX1_sector_50
/-- join, its picture -/
def sp_join (G : Nat → Int32) (S : Nat → Nat → Int32) (x1 : Int32) (x2 : Int32) : Int32 × (Nat → Int32) × (Nat → Nat → Int32) := if (sp_isSector G x1) = 0 then (0, G, S) else (if (sp_isSector G x2) = 0 then (0, G, S) else (if x1 = x2 then (0, G, S) else (if (sp_hasNeighbour S x1.toNatClampNeg x2) = 0 then (1, upd G 1 ((G 1) + 1), sp_addNeighbour (sp_addNeighbour S x1.toNatClampNeg x2) x2.toNatClampNeg x1) else (0, G, S))))
set_option maxHeartbeats 4000000 in
set_option maxRecDepth 100000 in
theorem c_H_join {x1 : Int32} {x2 : Int32} (hG : hg_n G n) : MI l D ((cA, .object RX0) :: tz) yX1_join wsX1_join { frames := 1, cells := 0, slots := 0, locals := 21 } [.ref h, .int x1, .int x2] (hw_W h a ad cA G S) ((sp_join G S x1 x2).1) (hw_W h a ad cA (sp_join G S x1 x2).2.1 (sp_join G S x1 x2).2.2) := by
  refine MI.start (cc := cX1_join) (maxL := 3) (by decide) rfl (Nat.le_of_ble_eq_true rfl) (fun p e s m args below meth c A ls C T hl => ?_)
  have hx := C.1.1
  have hb := C.1.2.1
  have hml := C.1.2.2.1
  have hown : s.vm.findClass RX1 = some m.cls := C.1.2.2.2.1
  have hts := C.1.2.2.2.2
  have hK := C.2.2.2.1
  have hN := C.2.2.2.2.1
  have hinH : ∀ w ∈ wsX10, w ∈ wsX1_join := by decide +kernel
  have hn32 := hG.1
  have hl : lv_has ls 3 [(0, .ref h), (1, .int x1), (2, .int x2)] := hl
  refine lv_aload_n hx hb dX1_join_0 rfl (lv_at hl 0 rfl) ?_
  refine lv_iload_n hx hb dX1_join_1 rfl (lv_at hl 1 rfl) ?_
  refine hw_Vi (As := [.int x1]) (rest := []) C T (c_H_isSector) (cwV 1 hts gX1_join_X1_isSector rfl rfl rfl (by decide +kernel) ⟨Nat.le_of_ble_eq_true rfl, Nat.le_of_ble_eq_true rfl⟩) hw_isH hw_ad rfl hl.1 rfl (Nat.le_of_ble_eq_true rfl) dX1_join_2 ⟨Nat.zero_le _, Nat.zero_le _⟩ (fun H locs T => ?_)
  refine lv_if_eq (tgt := 34) hx hb dX1_join_5 (by decide) (fun c_5 => ?_) (fun c_5 => ?_)
  · skip
    refine lv_iconst (v := 0) hx hb dX1_join_34 (by decide) ?_
    have e9 : sp_join G S x1 x2 = (0, G, S) := by unfold sp_join; simp only [if_pos c_5]
    exact hw_iret C T (by decide) (by rw [e9]) (by rw [e9]) dX1_join_35
  · skip
    refine lv_aload_n hx hb dX1_join_8 rfl (lv_at hl 0 rfl) ?_
    refine lv_iload_n hx hb dX1_join_9 rfl (lv_at hl 2 rfl) ?_
    refine hw_Vi (As := [.int x2]) (rest := []) C T (c_H_isSector) (cwV 1 hts gX1_join_X1_isSector rfl rfl rfl (by decide +kernel) ⟨Nat.le_of_ble_eq_true rfl, Nat.le_of_ble_eq_true rfl⟩) hw_isH hw_ad rfl hl.1 rfl (Nat.le_of_ble_eq_true rfl) dX1_join_10 ⟨Nat.zero_le _, Nat.zero_le _⟩ (fun H locs T => ?_)
    refine lv_if_eq (tgt := 34) hx hb dX1_join_13 (by decide) (fun c_13 => ?_) (fun c_13 => ?_)
    · skip
      refine lv_iconst (v := 0) hx hb dX1_join_34 (by decide) ?_
      have e9 : sp_join G S x1 x2 = (0, G, S) := by unfold sp_join; simp only [if_neg c_5, if_pos c_13]
      exact hw_iret C T (by decide) (by rw [e9]) (by rw [e9]) dX1_join_35
    · skip
      refine lv_iload_n hx hb dX1_join_16 rfl (lv_at hl 1 rfl) ?_
      refine lv_iload_n hx hb dX1_join_17 rfl (lv_at hl 2 rfl) ?_
      refine lv_icmp_eq (tgt := 34) hx hb dX1_join_18 (by decide) (fun c_18 => ?_) (fun c_18 => ?_)
      · skip
        refine lv_iconst (v := 0) hx hb dX1_join_34 (by decide) ?_
        have e9 : sp_join G S x1 x2 = (0, G, S) := by unfold sp_join; simp only [if_neg c_5, if_neg c_13, if_pos c_18]
        exact hw_iret C T (by decide) (by rw [e9]) (by rw [e9]) dX1_join_35
      · skip
        refine lv_aload_n hx hb dX1_join_21 rfl (lv_at hl 0 rfl) ?_
        refine va_get (D := D) (ci := 1) (v := .ref a) (C := RX1) (T := TX1) (N := 7) hx hb hts hinH hown hK T.1 0 rfl rfl 0 (by decide) (hts (.fieldLink RX1 11 "MoverHall" "sectors" "[LMoverHall$Sector;") (by decide +kernel)) (fun _ h9 => h9) rfl dX1_join_22 ?_
        refine lv_iload_n hx hb dX1_join_25 rfl (lv_at hl 1 rfl) ?_
        have h_26 : vp_in x1 32 := (sx_in hG c_5)
        refine va_aldq hx hb hK T.1 1 0 rfl rfl h_26 dX1_join_26 ?_
        refine W.eq (g2 := F0 m 27 ls [.ref (ad x1.toNatClampNeg)]) rfl ?_
        refine lv_iload_n hx hb dX1_join_27 rfl (lv_at hl 2 rfl) ?_
        refine hw_Ni (As := [.int x2]) (rest := []) C T (c_S_hasNeighbour (sx_lt h_26)) ⟨va_cnB 1 hts gX1_join_X0_hasNeighbour_n42 rfl rfl rfl (hN (.methodLinkNest RX1 42 yX0_hasNeighbour "MoverHall") (by decide +kernel)) (hts (.initialized RX0) (by decide +kernel)) (by decide +kernel) ⟨Nat.le_of_ble_eq_true rfl, Nat.le_of_ble_eq_true rfl⟩, hts (.instanceMethod yX0_hasNeighbour) (by decide +kernel), hts (.selects RX0 yX0_hasNeighbour yX0_hasNeighbour) (by decide +kernel)⟩ (hw_isS (sx_lt h_26)) hw_ad rfl hl.1 rfl (Nat.le_of_ble_eq_true rfl) dX1_join_28 ⟨Nat.zero_le _, Nat.zero_le _⟩ (fun H locs T => ?_)
        refine lv_if_eq (tgt := 36) hx hb dX1_join_31 (by decide) (fun c_31 => ?_) (fun c_31 => ?_)
        · skip
          refine lv_aload_n hx hb dX1_join_36 rfl (lv_at hl 0 rfl) ?_
          refine va_get (D := D) (ci := 1) (v := .ref a) (C := RX1) (T := TX1) (N := 7) hx hb hts hinH hown hK T.1 0 rfl rfl 0 (by decide) (hts (.fieldLink RX1 11 "MoverHall" "sectors" "[LMoverHall$Sector;") (by decide +kernel)) (fun _ h9 => h9) rfl dX1_join_37 ?_
          refine lv_iload_n hx hb dX1_join_40 rfl (lv_at hl 1 rfl) ?_
          have h_41 : vp_in x1 32 := (sx_in hG c_5)
          refine va_aldq hx hb hK T.1 1 0 rfl rfl h_41 dX1_join_41 ?_
          refine W.eq (g2 := F0 m 42 ls [.ref (ad x1.toNatClampNeg)]) rfl ?_
          refine lv_iload_n hx hb dX1_join_42 rfl (lv_at hl 2 rfl) ?_
          refine hw_Nv (As := [.int x2]) (rest := []) C T (c_S_addNeighbour (sx_lt h_41)) ⟨va_cnB 1 hts gX1_join_X0_addNeighbour_n45 rfl rfl rfl (hN (.methodLinkNest RX1 45 yX0_addNeighbour "MoverHall") (by decide +kernel)) (hts (.initialized RX0) (by decide +kernel)) (by decide +kernel) ⟨Nat.le_of_ble_eq_true rfl, Nat.le_of_ble_eq_true rfl⟩, hts (.instanceMethod yX0_addNeighbour) (by decide +kernel), hts (.selects RX0 yX0_addNeighbour yX0_addNeighbour) (by decide +kernel)⟩ (hw_isS (sx_lt h_41)) hw_ad rfl hl.1 rfl (Nat.le_of_ble_eq_true rfl) dX1_join_43 ⟨Nat.zero_le _, Nat.zero_le _⟩ (fun H locs T => ?_)
          refine lv_aload_n hx hb dX1_join_46 rfl (lv_at hl 0 rfl) ?_
          refine va_get (D := D) (ci := 1) (v := .ref a) (C := RX1) (T := TX1) (N := 7) hx hb hts hinH hown hK T.1 0 rfl rfl 0 (by decide) (hts (.fieldLink RX1 11 "MoverHall" "sectors" "[LMoverHall$Sector;") (by decide +kernel)) (fun _ h9 => h9) rfl dX1_join_47 ?_
          refine lv_iload_n hx hb dX1_join_50 rfl (lv_at hl 2 rfl) ?_
          have h_51 : vp_in x2 32 := (sx_in hG c_13)
          refine va_aldq hx hb hK T.1 1 0 rfl rfl h_51 dX1_join_51 ?_
          refine W.eq (g2 := F0 m 52 ls [.ref (ad x2.toNatClampNeg)]) rfl ?_
          refine lv_iload_n hx hb dX1_join_52 rfl (lv_at hl 1 rfl) ?_
          refine hw_Nv (As := [.int x1]) (rest := []) C T (c_S_addNeighbour (sx_lt h_51)) ⟨va_cnB 1 hts gX1_join_X0_addNeighbour_n45 rfl rfl rfl (hN (.methodLinkNest RX1 45 yX0_addNeighbour "MoverHall") (by decide +kernel)) (hts (.initialized RX0) (by decide +kernel)) (by decide +kernel) ⟨Nat.le_of_ble_eq_true rfl, Nat.le_of_ble_eq_true rfl⟩, hts (.instanceMethod yX0_addNeighbour) (by decide +kernel), hts (.selects RX0 yX0_addNeighbour yX0_addNeighbour) (by decide +kernel)⟩ (hw_isS (sx_lt h_51)) hw_ad rfl hl.1 rfl (Nat.le_of_ble_eq_true rfl) dX1_join_53 ⟨Nat.zero_le _, Nat.zero_le _⟩ (fun H locs T => ?_)
          refine lv_aload_n hx hb dX1_join_56 rfl (lv_at hl 0 rfl) ?_
          refine lv_dup hx hb dX1_join_57 rfl ?_
          refine va_get (D := D) (ci := 1) (v := .int (G 1)) (C := RX1) (T := TX1) (N := 7) hx hb hts hinH hown hK T.1 0 rfl rfl 2 (by decide) (hts (.fieldLink RX1 49 "MoverHall" "pairCount" "I") (by decide +kernel)) (fun _ h9 => h9) rfl dX1_join_58 ?_
          refine lv_iconst (v := 1) hx hb dX1_join_61 (by decide) ?_
          refine lv_iadd hx hb dX1_join_62 ?_
          refine va_put (D := D) (ci := 1) (v := .int ((G 1) + 1)) (ty := .int) (C := RX1) (T := TX1) (N := 7) hx hb hts hinH tyX1 tyX1_ok nmX1 hown hK T.1 T.2.1 T.2.2 0 rfl rfl 2 (by decide) (hts (.fieldLink RX1 49 "MoverHall" "pairCount" "I") (by decide +kernel)) (fun _ h9 => h9) rfl (by decide +kernel) rfl rfl (Nat.le_of_ble_eq_true rfl) dX1_join_63 (fun H locs hP hD hS => ?_)
          have T := hw_setH (k := 1) (v := (G 1) + 1) rfl ⟨hP, hD, hS⟩
          refine lv_iconst (v := 1) hx hb dX1_join_66 (by decide) ?_
          have e9 : sp_join G S x1 x2 = (1, upd G 1 ((G 1) + 1), sp_addNeighbour (sp_addNeighbour S x1.toNatClampNeg x2) x2.toNatClampNeg x1) := by unfold sp_join; simp only [if_neg c_5, if_neg c_13, if_neg c_18, if_pos c_31]
          exact hw_iret C T (by decide) (by rw [e9]) (by rw [e9]) dX1_join_67
        · skip
          refine lv_iconst (v := 0) hx hb dX1_join_34 (by decide) ?_
          have e9 : sp_join G S x1 x2 = (0, G, S) := by unfold sp_join; simp only [if_neg c_5, if_neg c_13, if_neg c_18, if_neg c_31]
          exact hw_iret C T (by decide) (by rw [e9]) (by rw [e9]) dX1_join_35
end
end
section
section
variable {l : Launch} {D : va_G} {h a : Nat} {ad : Nat → Nat} {cA : ClassId} {tz : List (ClassId × FieldType)} {G : Nat → Int32} {S : Nat → Nat → Int32} {n : Nat}
/-- begin, its picture -/
def sp_begin (G : Nat → Int32) (S : Nat → Nat → Int32) (n : Nat) (x1 : Int32) (x2 : Int32) : Int32 × (Nat → Int32) × (Nat → Nat → Int32) := if (sp_isSector G x1) = 0 then (0, G, S) else (if (sp_isMover x2) = 0 then (0, G, S) else (if (S x1.toNatClampNeg 8) = (-1) then (1, (sp_start G S n x1.toNatClampNeg x2).1, (sp_start G S n x1.toNatClampNeg x2).2) else (if x2 = 0 then (if (S x1.toNatClampNeg 8) = 0 then (if (S x1.toNatClampNeg 9) = 1 then (0, G, S) else (1, G, sp_go S x1.toNatClampNeg 1)) else (0, G, S)) else (0, G, S))))
theorem sp_begin_0 {G : Nat → Int32} {S : Nat → Nat → Int32} {n : Nat} {x1 : Int32} {x2 : Int32} : (sp_begin G S n x1 x2).2.1 0 = G 0 := by
  unfold sp_begin
  repeat' split
  all_goals first | rfl | exact sp_start_0
theorem sp_begin_n {G : Nat → Int32} {S : Nat → Nat → Int32} {n : Nat} {x1 : Int32} {x2 : Int32} (h : hg_n G n) : hg_n (sp_begin G S n x1 x2).2.1 n := ⟨h.1, by rw [sp_begin_0]; exact h.2⟩
set_option maxHeartbeats 4000000 in
set_option maxRecDepth 100000 in
theorem c_H_begin {x1 : Int32} {x2 : Int32} (hG : hg_n G n) : MI l D ((cA, .object RX0) :: tz) yX1_begin wsX1_begin { frames := 4, cells := 0, slots := 0, locals := 88 } [.ref h, .int x1, .int x2] (hw_W h a ad cA G S) ((sp_begin G S n x1 x2).1) (hw_W h a ad cA (sp_begin G S n x1 x2).2.1 (sp_begin G S n x1 x2).2.2) := by
  refine MI.start (cc := cX1_begin) (maxL := 4) (by decide) rfl (Nat.le_of_ble_eq_true rfl) (fun p e s m args below meth c A ls C T hl => ?_)
  have hx := C.1.1
  have hb := C.1.2.1
  have hml := C.1.2.2.1
  have hown : s.vm.findClass RX1 = some m.cls := C.1.2.2.2.1
  have hts := C.1.2.2.2.2
  have hK := C.2.2.2.1
  have hN := C.2.2.2.2.1
  have hinH : ∀ w ∈ wsX10, w ∈ wsX1_begin := by decide +kernel
  have hinS : ∀ w ∈ wsX00, w ∈ wsX1_begin := by decide +kernel
  have hn32 := hG.1
  have hl : lv_has ls 4 [(0, .ref h), (1, .int x1), (2, .int x2)] := hl
  refine lv_aload_n hx hb dX1_begin_0 rfl (lv_at hl 0 rfl) ?_
  refine lv_iload_n hx hb dX1_begin_1 rfl (lv_at hl 1 rfl) ?_
  refine hw_Vi (As := [.int x1]) (rest := []) C T (c_H_isSector) (cwV 1 hts gX1_begin_X1_isSector rfl rfl rfl (by decide +kernel) ⟨Nat.le_of_ble_eq_true rfl, Nat.le_of_ble_eq_true rfl⟩) hw_isH hw_ad rfl hl.1 rfl (Nat.le_of_ble_eq_true rfl) dX1_begin_2 ⟨Nat.zero_le _, Nat.zero_le _⟩ (fun H locs T => ?_)
  refine lv_if_eq (tgt := 15) hx hb dX1_begin_5 (by decide) (fun c_5 => ?_) (fun c_5 => ?_)
  · skip
    refine lv_iconst (v := 0) hx hb dX1_begin_15 (by decide) ?_
    have e9 : sp_begin G S n x1 x2 = (0, G, S) := by unfold sp_begin; simp only [if_pos c_5]
    exact hw_iret C T (by decide) (by rw [e9]) (by rw [e9]) dX1_begin_16
  · skip
    refine lv_iload_n hx hb dX1_begin_8 rfl (lv_at hl 2 rfl) ?_
    refine hw_Si (As := [.int x2]) (rest := []) C T (c_H_isMover) (va_cwS 1 hts gX1_begin_X1_isMover rfl rfl rfl (by decide +kernel) ⟨Nat.le_of_ble_eq_true rfl, Nat.le_of_ble_eq_true rfl⟩) hw_ad rfl hl.1 rfl (Nat.le_of_ble_eq_true rfl) dX1_begin_9 ⟨Nat.zero_le _, Nat.zero_le _⟩ (fun H locs T => ?_)
    refine lv_if_ne (tgt := 17) hx hb dX1_begin_12 (by decide) (fun c_12 => ?_) (fun c_12 => ?_)
    · skip
      refine lv_aload_n hx hb dX1_begin_17 rfl (lv_at hl 0 rfl) ?_
      refine va_get (D := D) (ci := 1) (v := .ref a) (C := RX1) (T := TX1) (N := 7) hx hb hts hinH hown hK T.1 0 rfl rfl 0 (by decide) (hts (.fieldLink RX1 11 "MoverHall" "sectors" "[LMoverHall$Sector;") (by decide +kernel)) (fun _ h9 => h9) rfl dX1_begin_18 ?_
      refine lv_iload_n hx hb dX1_begin_21 rfl (lv_at hl 1 rfl) ?_
      have h_22 : vp_in x1 32 := (sx_in hG c_5)
      refine va_aldq hx hb hK T.1 1 0 rfl rfl h_22 dX1_begin_22 ?_
      refine W.eq (g2 := F0 m 23 ls [.ref (ad x1.toNatClampNeg)]) rfl ?_
      refine lv_astore_n (lv' := [(3, .ref (ad x1.toNatClampNeg)), (0, .ref h), (1, .int x1), (2, .int x2)]) hx hb dX1_begin_23 rfl hl (by decide) rfl (fun ls hl => ?_)
      refine lv_aload_n hx hb dX1_begin_24 rfl (lv_at hl 0 rfl) ?_
      refine va_getN (D := D) (ci := 0) (v := .int (S x1.toNatClampNeg 8)) (C := RX0) (T := TX0) (N := 13) hx hb hts hinS hown hK T.1 (x1.toNatClampNeg + 2) (hw_at (sx_lt h_22)) rfl 8 (by decide) (va_Nw.use rfl (hN (.fieldLinkNest RX1 67 "MoverHall$Sector" "mover" "I" "MoverHall") (by decide +kernel))) (fun _ h9 => h9) rfl dX1_begin_25 ?_
      refine lv_iconst (v := (-1)) hx hb dX1_begin_28 (by decide) ?_
      refine lv_icmp_ne (tgt := 40) hx hb dX1_begin_29 (by decide) (fun c_29 => ?_) (fun c_29 => ?_)
      · skip
        refine lv_iload_n hx hb dX1_begin_40 rfl (lv_at hl 3 rfl) ?_
        refine lv_if_ne (tgt := 66) hx hb dX1_begin_41 (by decide) (fun c_41 => ?_) (fun c_41 => ?_)
        · skip
          refine lv_iconst (v := 0) hx hb dX1_begin_66 (by decide) ?_
          have e9 : sp_begin G S n x1 x2 = (0, G, S) := by unfold sp_begin; simp only [if_neg c_5, if_neg c_12, if_neg c_29, if_neg c_41]
          exact hw_iret C T (by decide) (by rw [e9]) (by rw [e9]) dX1_begin_67
        · skip
          refine lv_aload_n hx hb dX1_begin_44 rfl (lv_at hl 0 rfl) ?_
          refine va_getN (D := D) (ci := 0) (v := .int (S x1.toNatClampNeg 8)) (C := RX0) (T := TX0) (N := 13) hx hb hts hinS hown hK T.1 (x1.toNatClampNeg + 2) (hw_at (sx_lt h_22)) rfl 8 (by decide) (va_Nw.use rfl (hN (.fieldLinkNest RX1 67 "MoverHall$Sector" "mover" "I" "MoverHall") (by decide +kernel))) (fun _ h9 => h9) rfl dX1_begin_45 ?_
          refine lv_if_ne (tgt := 66) hx hb dX1_begin_48 (by decide) (fun c_48 => ?_) (fun c_48 => ?_)
          · skip
            refine lv_iconst (v := 0) hx hb dX1_begin_66 (by decide) ?_
            have e9 : sp_begin G S n x1 x2 = (0, G, S) := by unfold sp_begin; simp only [if_neg c_5, if_neg c_12, if_neg c_29, if_pos c_41, if_neg c_48]
            exact hw_iret C T (by decide) (by rw [e9]) (by rw [e9]) dX1_begin_67
          · skip
            refine lv_aload_n hx hb dX1_begin_51 rfl (lv_at hl 0 rfl) ?_
            refine va_getN (D := D) (ci := 0) (v := .int (S x1.toNatClampNeg 9)) (C := RX0) (T := TX0) (N := 13) hx hb hts hinS hown hK T.1 (x1.toNatClampNeg + 2) (hw_at (sx_lt h_22)) rfl 9 (by decide) (va_Nw.use rfl (hN (.fieldLinkNest RX1 74 "MoverHall$Sector" "way" "I" "MoverHall") (by decide +kernel))) (fun _ h9 => h9) rfl dX1_begin_52 ?_
            refine lv_iconst (v := 1) hx hb dX1_begin_55 (by decide) ?_
            refine lv_icmp_eq (tgt := 66) hx hb dX1_begin_56 (by decide) (fun c_56 => ?_) (fun c_56 => ?_)
            · skip
              refine lv_iconst (v := 0) hx hb dX1_begin_66 (by decide) ?_
              have e9 : sp_begin G S n x1 x2 = (0, G, S) := by unfold sp_begin; simp only [if_neg c_5, if_neg c_12, if_neg c_29, if_pos c_41, if_pos c_48, if_pos c_56]
              exact hw_iret C T (by decide) (by rw [e9]) (by rw [e9]) dX1_begin_67
            · skip
              refine lv_aload_n hx hb dX1_begin_59 rfl (lv_at hl 0 rfl) ?_
              refine lv_iconst (v := 1) hx hb dX1_begin_60 (by decide) ?_
              refine hw_Nv (As := [.int 1]) (rest := []) C T (c_S_go (sx_lt h_22)) ⟨va_cnB 1 hts gX1_begin_X0_go_n77 rfl rfl rfl (hN (.methodLinkNest RX1 77 yX0_go "MoverHall") (by decide +kernel)) (hts (.initialized RX0) (by decide +kernel)) (by decide +kernel) ⟨Nat.le_of_ble_eq_true rfl, Nat.le_of_ble_eq_true rfl⟩, hts (.instanceMethod yX0_go) (by decide +kernel), hts (.selects RX0 yX0_go yX0_go) (by decide +kernel)⟩ (hw_isS (sx_lt h_22)) hw_ad rfl hl.1 rfl (Nat.le_of_ble_eq_true rfl) dX1_begin_61 ⟨Nat.zero_le _, Nat.zero_le _⟩ (fun H locs T => ?_)
              refine lv_iconst (v := 1) hx hb dX1_begin_64 (by decide) ?_
              have e9 : sp_begin G S n x1 x2 = (1, G, sp_go S x1.toNatClampNeg 1) := by unfold sp_begin; simp only [if_neg c_5, if_neg c_12, if_neg c_29, if_pos c_41, if_pos c_48, if_neg c_56]
              exact hw_iret C T (by decide) (by rw [e9]) (by rw [e9]) dX1_begin_65
      · skip
        refine lv_aload_n hx hb dX1_begin_32 rfl (lv_at hl 1 rfl) ?_
        refine lv_aload_n hx hb dX1_begin_33 rfl (lv_at hl 0 rfl) ?_
        refine lv_iload_n hx hb dX1_begin_34 rfl (lv_at hl 3 rfl) ?_
        refine hw_Vv (As := [.ref (ad x1.toNatClampNeg), .int x2]) (rest := []) C T (c_H_start (sx_lt h_22) hG) (cwV 2 hts gX1_begin_X1_start rfl rfl rfl (by decide +kernel) ⟨Nat.le_of_ble_eq_true rfl, Nat.le_of_ble_eq_true rfl⟩) hw_isH hw_ad rfl hl.1 rfl (Nat.le_of_ble_eq_true rfl) dX1_begin_35 ⟨Nat.zero_le _, Nat.zero_le _⟩ (fun H locs T => ?_)
        refine lv_iconst (v := 1) hx hb dX1_begin_38 (by decide) ?_
        have e9 : sp_begin G S n x1 x2 = (1, (sp_start G S n x1.toNatClampNeg x2).1, (sp_start G S n x1.toNatClampNeg x2).2) := by unfold sp_begin; simp only [if_neg c_5, if_neg c_12, if_pos c_29]
        exact hw_iret C T (by decide) (by rw [e9]) (by rw [e9]) dX1_begin_39
    · skip
      refine lv_iconst (v := 0) hx hb dX1_begin_15 (by decide) ?_
      have e9 : sp_begin G S n x1 x2 = (0, G, S) := by unfold sp_begin; simp only [if_neg c_5, if_pos c_12]
      exact hw_iret C T (by decide) (by rw [e9]) (by rw [e9]) dX1_begin_16
/-- tag: its loop, by what is left to do -/
def sp_tag_loop (n : Nat) (x1 : Int32) (x2 : Int32) : Nat → Nat → Int32 → (Nat → Int32) → (Nat → Nat → Int32) → Int32 × (Nat → Int32) × (Nat → Nat → Int32)
  | 0, _, x, G, S => (x, G, S)
  | k + 1, i, x, G, S => if (S i 4) = x1 then (if ((sp_begin G S n (nI i) x2).1) = 0 then (sp_tag_loop n x1 x2 k (i + 1) x ((sp_begin G S n (nI i) x2).2.1) ((sp_begin G S n (nI i) x2).2.2)) else (sp_tag_loop n x1 x2 k (i + 1) (x + 1) ((sp_begin G S n (nI i) x2).2.1) ((sp_begin G S n (nI i) x2).2.2))) else (sp_tag_loop n x1 x2 k (i + 1) x G S)
set_option maxHeartbeats 4000000 in
set_option maxRecDepth 100000 in
theorem lp_tag {p : Program} {e : Env} {s : State} {m : MethodId} {args : Array Value} {below : List Frame} {meth : Method} {c : Code} {A : Nat → Prop} {x1 : Int32} {x2 : Int32}  (C : hw_C p s m args meth c cX1_tag (some .int) 5 wsX1_tag yX1_tag.cls D ((cA, .object RX0) :: tz) A) :
    ∀ (k i : Nat) (x : Int32) (G : Nat → Int32) (S : Nat → Nat → Int32), i + k = n → hg_n G n → ∀ (ls : Array Slot) (H : Heap) (locs : List Loc), hw_T D A s.heap (hw_W h a ad cA G S) H locs → lv_has ls 5 [(0, .ref h), (1, .int x1), (2, .int x2), (3, .int x), (4, .int (nI i))] → W p l e { frames := 5, cells := 0, slots := 0, locals := 111 } s m args below meth c H locs 0 0 (MQ below (va_Qi (fun (r' : Int32) (_ : Unit) => r' = (sp_tag_loop n x1 x2 k i x G S).1) (fun _ t => va_P D vwCl (hw_W h a ad cA (sp_tag_loop n x1 x2 k i x G S).2.1 (sp_tag_loop n x1 x2 k i x G S).2.2) t.heap) A) args s 0 0 A) (F0 m 25 ls []) := by
  have hx := C.1.1
  have hb := C.1.2.1
  have hml := C.1.2.2.1
  have hown : s.vm.findClass RX1 = some m.cls := C.1.2.2.2.1
  have hts := C.1.2.2.2.2
  have hK := C.2.2.2.1
  have hN := C.2.2.2.2.1
  have hinH : ∀ w ∈ wsX10, w ∈ wsX1_tag := by decide +kernel
  have hinS : ∀ w ∈ wsX00, w ∈ wsX1_tag := by decide +kernel
  intro k
  induction k with
  | zero =>
    intro i x G S hik hG ls H locs T hl
    have hn32 := hG.1
    refine lv_iload hx hb dX1_tag_25 (lv_at hl 4 rfl) ?_
    refine lv_aload_n hx hb dX1_tag_27 rfl (lv_at hl 0 rfl) ?_
    refine va_get (D := D) (ci := 1) (v := .int (G 0)) (C := RX1) (T := TX1) (N := 7) hx hb hts hinH hown hK T.1 0 rfl rfl 1 (by decide) (hts (.fieldLink RX1 20 "MoverHall" "sectorCount" "I") (by decide +kernel)) (fun _ h9 => h9) rfl dX1_tag_28 ?_
    refine lv_icmp_ge (tgt := 67) hx hb dX1_tag_31 (by decide) (fun c_31 => ?_) (fun c_31 => absurd (show G 0 ≤ nI i by rw [hG.2]; exact nI_le (show n ≤ i by omega) (by omega)) c_31)
    refine lv_iload_n hx hb dX1_tag_67 rfl (lv_at hl 3 rfl) ?_
    have e9 : sp_tag_loop n x1 x2 0 i x G S = (x, G, S) := by rw [sp_tag_loop]
    exact hw_iret C T rfl (by rw [e9]) (by rw [e9]) dX1_tag_68
  | succ k ih =>
    intro i x G S hik hG ls H locs T hl
    have hn32 := hG.1
    refine lv_iload hx hb dX1_tag_25 (lv_at hl 4 rfl) ?_
    refine lv_aload_n hx hb dX1_tag_27 rfl (lv_at hl 0 rfl) ?_
    refine va_get (D := D) (ci := 1) (v := .int (G 0)) (C := RX1) (T := TX1) (N := 7) hx hb hts hinH hown hK T.1 0 rfl rfl 1 (by decide) (hts (.fieldLink RX1 20 "MoverHall" "sectorCount" "I") (by decide +kernel)) (fun _ h9 => h9) rfl dX1_tag_28 ?_
    refine lv_icmp_ge (tgt := 67) hx hb dX1_tag_31 (by decide) (fun c_31 => absurd c_31 (show ¬ G 0 ≤ nI i by rw [hG.2]; exact nI_ge (show i < n by omega) (by omega))) (fun c_31 => ?_)
    refine lv_aload_n hx hb dX1_tag_34 rfl (lv_at hl 0 rfl) ?_
    refine va_get (D := D) (ci := 1) (v := .ref a) (C := RX1) (T := TX1) (N := 7) hx hb hts hinH hown hK T.1 0 rfl rfl 0 (by decide) (hts (.fieldLink RX1 11 "MoverHall" "sectors" "[LMoverHall$Sector;") (by decide +kernel)) (fun _ h9 => h9) rfl dX1_tag_35 ?_
    refine lv_iload hx hb dX1_tag_38 (lv_at hl 4 rfl) ?_
    have h_40 : vp_in (nI i) 32 := vp_in_nI (show i < 32 by omega) (by decide)
    refine va_aldq hx hb hK T.1 1 0 rfl rfl h_40 dX1_tag_40 ?_
    refine W.eq (g2 := F0 m 41 ls [.ref (ad i)]) (by rw [nI_clamp (show i < 2 ^ 31 by omega)] <;> rfl) ?_
    refine va_getN (D := D) (ci := 0) (v := .int (S i 4)) (C := RX0) (T := TX0) (N := 13) hx hb hts hinS hown hK T.1 (i + 2) (hw_at (show i < 32 by omega)) rfl 4 (by decide) (va_Nw.use rfl (hN (.fieldLinkNest RX1 80 "MoverHall$Sector" "tag" "I" "MoverHall") (by decide +kernel))) (fun _ h9 => h9) rfl dX1_tag_41 ?_
    refine lv_iload_n hx hb dX1_tag_44 rfl (lv_at hl 1 rfl) ?_
    refine lv_icmp_ne (tgt := 61) hx hb dX1_tag_45 (by decide) (fun c_45 => ?_) (fun c_45 => ?_)
    · skip
      refine lv_iinc (v := nI (i + 1)) (lv' := [(4, .int (nI (i + 1))), (0, .ref h), (1, .int x1), (2, .int x2), (3, .int x)]) hx hb dX1_tag_61 hl (k := 4) rfl (nI_1 i) (by decide) rfl (fun ls hl => ?_)
      refine lv_goto (tgt := 25) hx hb dX1_tag_64 (by decide) ?_
      rw [show sp_tag_loop n x1 x2 (k + 1) i x G S = sp_tag_loop n x1 x2 k (i + 1) x G S from by rw [sp_tag_loop]; simp only [if_neg c_45]]
      exact ih (i + 1) _ _ _ (by omega) hG _ _ _ T (lv_sub hl [1, 2, 3, 4, 0] rfl)
    · skip
      refine lv_aload_n hx hb dX1_tag_48 rfl (lv_at hl 0 rfl) ?_
      refine lv_iload hx hb dX1_tag_49 (lv_at hl 4 rfl) ?_
      refine lv_iload_n hx hb dX1_tag_51 rfl (lv_at hl 2 rfl) ?_
      refine hw_Vi (As := [.int (nI i), .int x2]) (rest := []) C T (c_H_begin hG) (cwV 2 hts gX1_tag_X1_begin rfl rfl rfl (by decide +kernel) ⟨Nat.le_of_ble_eq_true rfl, Nat.le_of_ble_eq_true rfl⟩) hw_isH hw_ad rfl hl.1 rfl (Nat.le_of_ble_eq_true rfl) dX1_tag_52 ⟨Nat.zero_le _, Nat.zero_le _⟩ (fun H locs T => ?_)
      refine lv_if_eq (tgt := 61) hx hb dX1_tag_55 (by decide) (fun c_55 => ?_) (fun c_55 => ?_)
      · skip
        refine lv_iinc (v := nI (i + 1)) (lv' := [(4, .int (nI (i + 1))), (0, .ref h), (1, .int x1), (2, .int x2), (3, .int x)]) hx hb dX1_tag_61 hl (k := 4) rfl (nI_1 i) (by decide) rfl (fun ls hl => ?_)
        refine lv_goto (tgt := 25) hx hb dX1_tag_64 (by decide) ?_
        rw [show sp_tag_loop n x1 x2 (k + 1) i x G S = sp_tag_loop n x1 x2 k (i + 1) x ((sp_begin G S n (nI i) x2).2.1) ((sp_begin G S n (nI i) x2).2.2) from by rw [sp_tag_loop]; simp only [if_pos c_45, if_pos c_55]]
        exact ih (i + 1) _ _ _ (by omega) (sp_begin_n hG) _ _ _ T (lv_sub hl [1, 2, 3, 4, 0] rfl)
      · skip
        refine lv_iinc (v := x + 1) (lv' := [(3, .int (x + 1)), (0, .ref h), (1, .int x1), (2, .int x2), (4, .int (nI i))]) hx hb dX1_tag_58 hl (k := 3) rfl rfl (by decide) rfl (fun ls hl => ?_)
        refine lv_iinc (v := nI (i + 1)) (lv' := [(4, .int (nI (i + 1))), (3, .int (x + 1)), (0, .ref h), (1, .int x1), (2, .int x2)]) hx hb dX1_tag_61 hl (k := 4) rfl (nI_1 i) (by decide) rfl (fun ls hl => ?_)
        refine lv_goto (tgt := 25) hx hb dX1_tag_64 (by decide) ?_
        rw [show sp_tag_loop n x1 x2 (k + 1) i x G S = sp_tag_loop n x1 x2 k (i + 1) (x + 1) ((sp_begin G S n (nI i) x2).2.1) ((sp_begin G S n (nI i) x2).2.2) from by rw [sp_tag_loop]; simp only [if_pos c_45, if_neg c_55]]
        exact ih (i + 1) _ _ _ (by omega) (sp_begin_n hG) _ _ _ T (lv_sub hl [2, 3, 4, 1, 0] rfl)
/-- tag, its picture -/
def sp_tag (G : Nat → Int32) (S : Nat → Nat → Int32) (n : Nat) (x1 : Int32) (x2 : Int32) : Int32 × (Nat → Int32) × (Nat → Nat → Int32) := if (sp_isWithin x1 0 255) = 0 then ((-1), G, S) else (if (sp_isMover x2) = 0 then ((-1), G, S) else (sp_tag_loop n x1 x2 n 0 0 G S))
set_option maxHeartbeats 4000000 in
set_option maxRecDepth 100000 in
theorem c_H_tag {x1 : Int32} {x2 : Int32} (hG : hg_n G n) : MI l D ((cA, .object RX0) :: tz) yX1_tag wsX1_tag { frames := 5, cells := 0, slots := 0, locals := 111 } [.ref h, .int x1, .int x2] (hw_W h a ad cA G S) ((sp_tag G S n x1 x2).1) (hw_W h a ad cA (sp_tag G S n x1 x2).2.1 (sp_tag G S n x1 x2).2.2) := by
  refine MI.start (cc := cX1_tag) (maxL := 5) (by decide) rfl (Nat.le_of_ble_eq_true rfl) (fun p e s m args below meth c A ls C T hl => ?_)
  have hx := C.1.1
  have hb := C.1.2.1
  have hml := C.1.2.2.1
  have hown : s.vm.findClass RX1 = some m.cls := C.1.2.2.2.1
  have hts := C.1.2.2.2.2
  have hK := C.2.2.2.1
  have hN := C.2.2.2.2.1
  have hinH : ∀ w ∈ wsX10, w ∈ wsX1_tag := by decide +kernel
  have hinS : ∀ w ∈ wsX00, w ∈ wsX1_tag := by decide +kernel
  have hn32 := hG.1
  have hl : lv_has ls 5 [(0, .ref h), (1, .int x1), (2, .int x2)] := hl
  refine lv_iload_n hx hb dX1_tag_0 rfl (lv_at hl 1 rfl) ?_
  refine lv_iconst (v := 0) hx hb dX1_tag_1 (by decide) ?_
  refine lv_sipush (v := 255) hx hb dX1_tag_2 (by decide) ?_
  refine hw_Si (As := [.int x1, .int 0, .int 255]) (rest := []) C T (c_H_isWithin) (va_cwS 3 hts gX1_tag_X1_isWithin rfl rfl rfl (by decide +kernel) ⟨Nat.le_of_ble_eq_true rfl, Nat.le_of_ble_eq_true rfl⟩) hw_ad rfl hl.1 rfl (Nat.le_of_ble_eq_true rfl) dX1_tag_5 ⟨Nat.zero_le _, Nat.zero_le _⟩ (fun H locs T => ?_)
  refine lv_if_eq (tgt := 18) hx hb dX1_tag_8 (by decide) (fun c_8 => ?_) (fun c_8 => ?_)
  · skip
    refine lv_iconst (v := (-1)) hx hb dX1_tag_18 (by decide) ?_
    have e9 : sp_tag G S n x1 x2 = ((-1), G, S) := by unfold sp_tag; simp only [if_pos c_8]
    exact hw_iret C T rfl (by rw [e9]) (by rw [e9]) dX1_tag_19
  · skip
    refine lv_iload_n hx hb dX1_tag_11 rfl (lv_at hl 2 rfl) ?_
    refine hw_Si (As := [.int x2]) (rest := []) C T (c_H_isMover) (va_cwS 1 hts gX1_tag_X1_isMover rfl rfl rfl (by decide +kernel) ⟨Nat.le_of_ble_eq_true rfl, Nat.le_of_ble_eq_true rfl⟩) hw_ad rfl hl.1 rfl (Nat.le_of_ble_eq_true rfl) dX1_tag_12 ⟨Nat.zero_le _, Nat.zero_le _⟩ (fun H locs T => ?_)
    refine lv_if_ne (tgt := 20) hx hb dX1_tag_15 (by decide) (fun c_15 => ?_) (fun c_15 => ?_)
    · skip
      refine lv_iconst (v := 0) hx hb dX1_tag_20 (by decide) ?_
      refine lv_istore_n (lv' := [(3, .int 0), (0, .ref h), (1, .int x1), (2, .int x2)]) hx hb dX1_tag_21 rfl hl (by decide) rfl (fun ls hl => ?_)
      refine lv_iconst (v := 0) hx hb dX1_tag_22 (by decide) ?_
      refine lv_istore (lv' := [(4, .int 0), (3, .int 0), (0, .ref h), (1, .int x1), (2, .int x2)]) hx hb dX1_tag_23 hl (by decide) rfl (fun ls hl => ?_)
      rw [show sp_tag G S n x1 x2 = sp_tag_loop n x1 x2 n 0 0 G S from by unfold sp_tag; simp only [if_neg c_8, if_neg c_15]]
      exact lp_tag C n 0 _ _ _ (by omega) hG _ _ _ T (lv_sub hl [2, 3, 4, 1, 0] rfl)
    · skip
      refine lv_iconst (v := (-1)) hx hb dX1_tag_18 (by decide) ?_
      have e9 : sp_tag G S n x1 x2 = ((-1), G, S) := by unfold sp_tag; simp only [if_neg c_8, if_pos c_15]
      exact hw_iret C T rfl (by rw [e9]) (by rw [e9]) dX1_tag_19
/-- enter, its picture -/
def sp_enter (G : Nat → Int32) (S : Nat → Nat → Int32) (x1 : Int32) : Int32 × (Nat → Int32) × (Nat → Nat → Int32) := if x1 = (-1) then (1, upd G 5 x1, S) else (if (sp_isSector G x1) = 0 then (0, G, S) else (1, upd G 5 x1, S))
set_option maxHeartbeats 4000000 in
set_option maxRecDepth 100000 in
theorem c_H_enter {x1 : Int32}  : MI l D ((cA, .object RX0) :: tz) yX1_enter wsX1_enter { frames := 1, cells := 0, slots := 0, locals := 21 } [.ref h, .int x1] (hw_W h a ad cA G S) ((sp_enter G S x1).1) (hw_W h a ad cA (sp_enter G S x1).2.1 (sp_enter G S x1).2.2) := by
  refine MI.start (cc := cX1_enter) (maxL := 2) (by decide) rfl (Nat.le_of_ble_eq_true rfl) (fun p e s m args below meth c A ls C T hl => ?_)
  have hx := C.1.1
  have hb := C.1.2.1
  have hml := C.1.2.2.1
  have hown : s.vm.findClass RX1 = some m.cls := C.1.2.2.2.1
  have hts := C.1.2.2.2.2
  have hK := C.2.2.2.1
  have hinH : ∀ w ∈ wsX10, w ∈ wsX1_enter := by decide +kernel
  have hl : lv_has ls 2 [(0, .ref h), (1, .int x1)] := hl
  refine lv_iload_n hx hb dX1_enter_0 rfl (lv_at hl 1 rfl) ?_
  refine lv_iconst (v := (-1)) hx hb dX1_enter_1 (by decide) ?_
  refine lv_icmp_eq (tgt := 15) hx hb dX1_enter_2 (by decide) (fun c_2 => ?_) (fun c_2 => ?_)
  · skip
    refine lv_aload_n hx hb dX1_enter_15 rfl (lv_at hl 0 rfl) ?_
    refine lv_iload_n hx hb dX1_enter_16 rfl (lv_at hl 1 rfl) ?_
    refine va_put (D := D) (ci := 1) (v := .int x1) (ty := .int) (C := RX1) (T := TX1) (N := 7) hx hb hts hinH tyX1 tyX1_ok nmX1 hown hK T.1 T.2.1 T.2.2 0 rfl rfl 6 (by decide) (hts (.fieldLink RX1 16 "MoverHall" "guestSector" "I") (by decide +kernel)) (fun _ h9 => h9) rfl (by decide +kernel) rfl rfl (Nat.le_of_ble_eq_true rfl) dX1_enter_17 (fun H locs hP hD hS => ?_)
    have T := hw_setH (k := 5) (v := x1) rfl ⟨hP, hD, hS⟩
    refine lv_iconst (v := 1) hx hb dX1_enter_20 (by decide) ?_
    have e9 : sp_enter G S x1 = (1, upd G 5 x1, S) := by unfold sp_enter; simp only [if_pos c_2]
    exact hw_iret C T (by decide) (by rw [e9]) (by rw [e9]) dX1_enter_21
  · skip
    refine lv_aload_n hx hb dX1_enter_5 rfl (lv_at hl 0 rfl) ?_
    refine lv_iload_n hx hb dX1_enter_6 rfl (lv_at hl 1 rfl) ?_
    refine hw_Vi (As := [.int x1]) (rest := []) C T (c_H_isSector) (cwV 1 hts gX1_enter_X1_isSector rfl rfl rfl (by decide +kernel) ⟨Nat.le_of_ble_eq_true rfl, Nat.le_of_ble_eq_true rfl⟩) hw_isH hw_ad rfl hl.1 rfl (Nat.le_of_ble_eq_true rfl) dX1_enter_7 ⟨Nat.zero_le _, Nat.zero_le _⟩ (fun H locs T => ?_)
    refine lv_if_ne (tgt := 15) hx hb dX1_enter_10 (by decide) (fun c_10 => ?_) (fun c_10 => ?_)
    · skip
      refine lv_aload_n hx hb dX1_enter_15 rfl (lv_at hl 0 rfl) ?_
      refine lv_iload_n hx hb dX1_enter_16 rfl (lv_at hl 1 rfl) ?_
      refine va_put (D := D) (ci := 1) (v := .int x1) (ty := .int) (C := RX1) (T := TX1) (N := 7) hx hb hts hinH tyX1 tyX1_ok nmX1 hown hK T.1 T.2.1 T.2.2 0 rfl rfl 6 (by decide) (hts (.fieldLink RX1 16 "MoverHall" "guestSector" "I") (by decide +kernel)) (fun _ h9 => h9) rfl (by decide +kernel) rfl rfl (Nat.le_of_ble_eq_true rfl) dX1_enter_17 (fun H locs hP hD hS => ?_)
      have T := hw_setH (k := 5) (v := x1) rfl ⟨hP, hD, hS⟩
      refine lv_iconst (v := 1) hx hb dX1_enter_20 (by decide) ?_
      have e9 : sp_enter G S x1 = (1, upd G 5 x1, S) := by unfold sp_enter; simp only [if_neg c_2, if_neg c_10]
      exact hw_iret C T (by decide) (by rw [e9]) (by rw [e9]) dX1_enter_21
    · skip
      refine lv_iconst (v := 0) hx hb dX1_enter_13 (by decide) ?_
      have e9 : sp_enter G S x1 = (0, G, S) := by unfold sp_enter; simp only [if_neg c_2, if_pos c_10]
      exact hw_iret C T (by decide) (by rw [e9]) (by rw [e9]) dX1_enter_14
/-- ticks: its loop, by what is left to do -/
def sp_ticks_loop (n : Nat) : Nat → Nat → (Nat → Int32) → (Nat → Nat → Int32) → Int32 × (Nat → Int32) × (Nat → Nat → Int32)
  | 0, _, G, S => (G 2, G, S)
  | k + 1, i, G, S => sp_ticks_loop n k (i + 1) ((sp_passOneTick G S n).1) ((sp_passOneTick G S n).2)
set_option maxHeartbeats 4000000 in
set_option maxRecDepth 100000 in
theorem lp_ticks {p : Program} {e : Env} {s : State} {m : MethodId} {args : Array Value} {below : List Frame} {meth : Method} {c : Code} {A : Nat → Prop}   {N : Nat} (hN1 : N ≤ 1000) (C : hw_C p s m args meth c cX1_ticks (some .int) 3 wsX1_ticks yX1_ticks.cls D ((cA, .object RX0) :: tz) A) :
    ∀ (k i : Nat) (G : Nat → Int32) (S : Nat → Nat → Int32), i + k = N → hg_n G n → ∀ (ls : Array Slot) (H : Heap) (locs : List Loc), hw_T D A s.heap (hw_W h a ad cA G S) H locs → lv_has ls 3 [(0, .ref h), (1, .int (nI N)), (2, .int (nI i))] → W p l e { frames := 7, cells := 0, slots := 0, locals := 152 } s m args below meth c H locs 0 0 (MQ below (va_Qi (fun (r' : Int32) (_ : Unit) => r' = (sp_ticks_loop n k i G S).1) (fun _ t => va_P D vwCl (hw_W h a ad cA (sp_ticks_loop n k i G S).2.1 (sp_ticks_loop n k i G S).2.2) t.heap) A) args s 0 0 A) (F0 m 15 ls []) := by
  have hx := C.1.1
  have hb := C.1.2.1
  have hml := C.1.2.2.1
  have hown : s.vm.findClass RX1 = some m.cls := C.1.2.2.2.1
  have hts := C.1.2.2.2.2
  have hK := C.2.2.2.1
  have hinH : ∀ w ∈ wsX10, w ∈ wsX1_ticks := by decide +kernel
  intro k
  induction k with
  | zero =>
    intro i G S hik hG ls H locs T hl
    have hn32 := hG.1
    refine lv_iload_n hx hb dX1_ticks_15 rfl (lv_at hl 2 rfl) ?_
    refine lv_iload_n hx hb dX1_ticks_16 rfl (lv_at hl 1 rfl) ?_
    refine lv_icmp_ge (tgt := 30) hx hb dX1_ticks_17 (by decide) (fun c_17 => ?_) (fun c_17 => absurd (show nI N ≤ nI i from nI_le (show N ≤ i by omega) (by omega)) c_17)
    refine lv_aload_n hx hb dX1_ticks_30 rfl (lv_at hl 0 rfl) ?_
    refine va_get (D := D) (ci := 1) (v := .int (G 2)) (C := RX1) (T := TX1) (N := 7) hx hb hts hinH hown hK T.1 0 rfl rfl 3 (by decide) (hts (.fieldLink RX1 55 "MoverHall" "tickCount" "I") (by decide +kernel)) (fun _ h9 => h9) rfl dX1_ticks_31 ?_
    have e9 : sp_ticks_loop n 0 i G S = (G 2, G, S) := by rw [sp_ticks_loop]
    exact hw_iret C T rfl (by rw [e9]) (by rw [e9]) dX1_ticks_34
  | succ k ih =>
    intro i G S hik hG ls H locs T hl
    have hn32 := hG.1
    refine lv_iload_n hx hb dX1_ticks_15 rfl (lv_at hl 2 rfl) ?_
    refine lv_iload_n hx hb dX1_ticks_16 rfl (lv_at hl 1 rfl) ?_
    refine lv_icmp_ge (tgt := 30) hx hb dX1_ticks_17 (by decide) (fun c_17 => absurd c_17 (show ¬ nI N ≤ nI i from nI_ge (show i < N by omega) (by omega))) (fun c_17 => ?_)
    refine lv_aload_n hx hb dX1_ticks_20 rfl (lv_at hl 0 rfl) ?_
    refine hw_Vv (As := []) (rest := []) C T (c_H_passOneTick hG) (cwV 0 hts gX1_ticks_X1_passOneTick rfl rfl rfl (by decide +kernel) ⟨Nat.le_of_ble_eq_true rfl, Nat.le_of_ble_eq_true rfl⟩) hw_isH hw_ad rfl hl.1 rfl (Nat.le_of_ble_eq_true rfl) dX1_ticks_21 ⟨Nat.zero_le _, Nat.zero_le _⟩ (fun H locs T => ?_)
    refine lv_iinc (v := nI (i + 1)) (lv' := [(2, .int (nI (i + 1))), (0, .ref h), (1, .int (nI N))]) hx hb dX1_ticks_24 hl (k := 2) rfl (nI_1 i) (by decide) rfl (fun ls hl => ?_)
    refine lv_goto (tgt := 15) hx hb dX1_ticks_27 (by decide) ?_
    rw [show sp_ticks_loop n (k + 1) i G S = sp_ticks_loop n k (i + 1) ((sp_passOneTick G S n).1) ((sp_passOneTick G S n).2) from by rw [sp_ticks_loop]]
    exact ih (i + 1) _ _ (by omega) (sp_passOneTick_n hG) _ _ _ T (lv_sub hl [1, 2, 0] rfl)
/-- ticks, its picture -/
def sp_ticks (G : Nat → Int32) (S : Nat → Nat → Int32) (n : Nat) (x1 : Int32) : Int32 × (Nat → Int32) × (Nat → Nat → Int32) := if (sp_isWithin x1 0 1000) = 0 then ((-1), G, S) else (sp_ticks_loop n x1.toNatClampNeg 0 G S)
set_option maxHeartbeats 4000000 in
set_option maxRecDepth 100000 in
theorem c_H_ticks {x1 : Int32} (hG : hg_n G n) : MI l D ((cA, .object RX0) :: tz) yX1_ticks wsX1_ticks { frames := 7, cells := 0, slots := 0, locals := 152 } [.ref h, .int x1] (hw_W h a ad cA G S) ((sp_ticks G S n x1).1) (hw_W h a ad cA (sp_ticks G S n x1).2.1 (sp_ticks G S n x1).2.2) := by
  refine MI.start (cc := cX1_ticks) (maxL := 3) (by decide) rfl (Nat.le_of_ble_eq_true rfl) (fun p e s m args below meth c A ls C T hl => ?_)
  have hx := C.1.1
  have hb := C.1.2.1
  have hml := C.1.2.2.1
  have hown : s.vm.findClass RX1 = some m.cls := C.1.2.2.2.1
  have hts := C.1.2.2.2.2
  have hK := C.2.2.2.1
  have hinH : ∀ w ∈ wsX10, w ∈ wsX1_ticks := by decide +kernel
  have hn32 := hG.1
  have hl : lv_has ls 3 [(0, .ref h), (1, .int x1)] := hl
  refine lv_iload_n hx hb dX1_ticks_0 rfl (lv_at hl 1 rfl) ?_
  refine lv_iconst (v := 0) hx hb dX1_ticks_1 (by decide) ?_
  refine lv_sipush (v := 1000) hx hb dX1_ticks_2 (by decide) ?_
  refine hw_Si (As := [.int x1, .int 0, .int 1000]) (rest := []) C T (c_H_isWithin) (va_cwS 3 hts gX1_ticks_X1_isWithin rfl rfl rfl (by decide +kernel) ⟨Nat.le_of_ble_eq_true rfl, Nat.le_of_ble_eq_true rfl⟩) hw_ad rfl hl.1 rfl (Nat.le_of_ble_eq_true rfl) dX1_ticks_5 ⟨Nat.zero_le _, Nat.zero_le _⟩ (fun H locs T => ?_)
  refine lv_if_ne (tgt := 13) hx hb dX1_ticks_8 (by decide) (fun c_8 => ?_) (fun c_8 => ?_)
  · skip
    refine lv_iconst (v := 0) hx hb dX1_ticks_13 (by decide) ?_
    refine lv_istore_n (lv' := [(2, .int 0), (0, .ref h), (1, .int x1)]) hx hb dX1_ticks_14 rfl hl (by decide) rfl (fun ls hl => ?_)
    obtain ⟨N, hN1, rfl⟩ := sx_ticks c_8
    rw [show sp_ticks G S n (nI N) = sp_ticks_loop n N 0 G S from by unfold sp_ticks; simp only [if_neg c_8, nI_clamp (show N < 2 ^ 31 by omega)]]
    exact lp_ticks hN1 C N 0 _ _ (by omega) hG _ _ _ T (lv_sub hl [1, 2, 0] rfl)
  · skip
    refine lv_iconst (v := (-1)) hx hb dX1_ticks_11 (by decide) ?_
    have e9 : sp_ticks G S n x1 = ((-1), G, S) := by unfold sp_ticks; simp only [if_pos c_8]
    exact hw_iret C T rfl (by rw [e9]) (by rw [e9]) dX1_ticks_12
/-- of, its picture -/
def sp_of (G : Nat → Int32) (S : Nat → Nat → Int32) (n : Nat) (x1 : Int32) (x2 : Int32) : Int32 := if (sp_isSector G x1) = 0 then 100000 else (if x2 = 0 then (S x1.toNatClampNeg 6) else (if x2 = 1 then (S x1.toNatClampNeg 7) else (if x2 = 2 then (sp_lightNow G S x1.toNatClampNeg) else (if x2 = 3 then (S x1.toNatClampNeg 8) else (if x2 = 4 then (S x1.toNatClampNeg 9) else (if x2 = 5 then (S x1.toNatClampNeg 10) else (if x2 = 6 then (sp_lowFloor S n x1.toNatClampNeg) else (if x2 = 7 then (sp_highFloor S n x1.toNatClampNeg) else (if x2 = 8 then (sp_lowCeiling S n x1.toNatClampNeg) else (if x2 = 9 then (S x1.toNatClampNeg 11) else 100000))))))))))
set_option maxHeartbeats 4000000 in
set_option maxRecDepth 100000 in
theorem c_H_of {x1 : Int32} {x2 : Int32} (hG : hg_n G n) : MI l D ((cA, .object RX0) :: tz) yX1_of wsX1_of { frames := 2, cells := 0, slots := 0, locals := 44 } [.ref h, .int x1, .int x2] (hw_W h a ad cA G S) (sp_of G S n x1 x2) (hw_W h a ad cA G S) := by
  refine MI.start (cc := cX1_of) (maxL := 4) (by decide) rfl (Nat.le_of_ble_eq_true rfl) (fun p e s m args below meth c A ls C T hl => ?_)
  have hx := C.1.1
  have hb := C.1.2.1
  have hml := C.1.2.2.1
  have hown : s.vm.findClass RX1 = some m.cls := C.1.2.2.2.1
  have hts := C.1.2.2.2.2
  have hK := C.2.2.2.1
  have hN := C.2.2.2.2.1
  have hinH : ∀ w ∈ wsX10, w ∈ wsX1_of := by decide +kernel
  have hinS : ∀ w ∈ wsX00, w ∈ wsX1_of := by decide +kernel
  have hn32 := hG.1
  have hl : lv_has ls 4 [(0, .ref h), (1, .int x1), (2, .int x2)] := hl
  refine lv_aload_n hx hb dX1_of_0 rfl (lv_at hl 0 rfl) ?_
  refine lv_iload_n hx hb dX1_of_1 rfl (lv_at hl 1 rfl) ?_
  refine hw_Vi (As := [.int x1]) (rest := []) C T (c_H_isSector) (cwV 1 hts gX1_of_X1_isSector rfl rfl rfl (by decide +kernel) ⟨Nat.le_of_ble_eq_true rfl, Nat.le_of_ble_eq_true rfl⟩) hw_isH hw_ad rfl hl.1 rfl (Nat.le_of_ble_eq_true rfl) dX1_of_2 ⟨Nat.zero_le _, Nat.zero_le _⟩ (fun H locs T => ?_)
  refine lv_if_ne (tgt := 11) hx hb dX1_of_5 (by decide) (fun c_5 => ?_) (fun c_5 => ?_)
  · skip
    refine lv_aload_n hx hb dX1_of_11 rfl (lv_at hl 0 rfl) ?_
    refine va_get (D := D) (ci := 1) (v := .ref a) (C := RX1) (T := TX1) (N := 7) hx hb hts hinH hown hK T.1 0 rfl rfl 0 (by decide) (hts (.fieldLink RX1 11 "MoverHall" "sectors" "[LMoverHall$Sector;") (by decide +kernel)) (fun _ h9 => h9) rfl dX1_of_12 ?_
    refine lv_iload_n hx hb dX1_of_15 rfl (lv_at hl 1 rfl) ?_
    have h_16 : vp_in x1 32 := (sx_in hG c_5)
    refine va_aldq hx hb hK T.1 1 0 rfl rfl h_16 dX1_of_16 ?_
    refine W.eq (g2 := F0 m 17 ls [.ref (ad x1.toNatClampNeg)]) rfl ?_
    refine lv_astore_n (lv' := [(3, .ref (ad x1.toNatClampNeg)), (0, .ref h), (1, .int x1), (2, .int x2)]) hx hb dX1_of_17 rfl hl (by decide) rfl (fun ls hl => ?_)
    refine lv_iload_n hx hb dX1_of_18 rfl (lv_at hl 3 rfl) ?_
    by_cases c_19_0 : x2 = 0
    · skip
      refine lv_tableIn (off := 53) (tgt := 72) hx hb dX1_of_19 (by rw [c_19_0]; decide) (by rw [c_19_0]; decide) (by rw [c_19_0]; decide +kernel) (by decide) ?_
      refine lv_aload_n hx hb dX1_of_72 rfl (lv_at hl 0 rfl) ?_
      refine va_getN (D := D) (ci := 0) (v := .int (S x1.toNatClampNeg 6)) (C := RX0) (T := TX0) (N := 13) hx hb hts hinS hown hK T.1 (x1.toNatClampNeg + 2) (hw_at (sx_lt h_16)) rfl 6 (by decide) (va_Nw.use rfl (hN (.fieldLinkNest RX1 90 "MoverHall$Sector" "floor" "I" "MoverHall") (by decide +kernel))) (fun _ h9 => h9) rfl dX1_of_73 ?_
      have e9 : sp_of G S n x1 x2 = S x1.toNatClampNeg 6 := by unfold sp_of; simp only [if_neg c_5, if_pos c_19_0]
      exact hw_iret C T rfl e9.symm rfl dX1_of_76
    · skip
      by_cases c_19_1 : x2 = 1
      · skip
        refine lv_tableIn (off := 58) (tgt := 77) hx hb dX1_of_19 (by rw [c_19_1]; decide) (by rw [c_19_1]; decide) (by rw [c_19_1]; decide +kernel) (by decide) ?_
        refine lv_aload_n hx hb dX1_of_77 rfl (lv_at hl 0 rfl) ?_
        refine va_getN (D := D) (ci := 0) (v := .int (S x1.toNatClampNeg 7)) (C := RX0) (T := TX0) (N := 13) hx hb hts hinS hown hK T.1 (x1.toNatClampNeg + 2) (hw_at (sx_lt h_16)) rfl 7 (by decide) (va_Nw.use rfl (hN (.fieldLinkNest RX1 93 "MoverHall$Sector" "ceiling" "I" "MoverHall") (by decide +kernel))) (fun _ h9 => h9) rfl dX1_of_78 ?_
        have e9 : sp_of G S n x1 x2 = S x1.toNatClampNeg 7 := by unfold sp_of; simp only [if_neg c_5, if_neg c_19_0, if_pos c_19_1]
        exact hw_iret C T rfl e9.symm rfl dX1_of_81
      · skip
        by_cases c_19_2 : x2 = 2
        · skip
          refine lv_tableIn (off := 63) (tgt := 82) hx hb dX1_of_19 (by rw [c_19_2]; decide) (by rw [c_19_2]; decide) (by rw [c_19_2]; decide +kernel) (by decide) ?_
          refine lv_aload_n hx hb dX1_of_82 rfl (lv_at hl 1 rfl) ?_
          refine lv_aload_n hx hb dX1_of_83 rfl (lv_at hl 0 rfl) ?_
          refine hw_Vi (As := [.ref (ad x1.toNatClampNeg)]) (rest := []) C T (c_H_lightNow (sx_lt h_16)) (cwV 1 hts gX1_of_X1_lightNow rfl rfl rfl (by decide +kernel) ⟨Nat.le_of_ble_eq_true rfl, Nat.le_of_ble_eq_true rfl⟩) hw_isH hw_ad rfl hl.1 rfl (Nat.le_of_ble_eq_true rfl) dX1_of_84 ⟨Nat.zero_le _, Nat.zero_le _⟩ (fun H locs T => ?_)
          have e9 : sp_of G S n x1 x2 = sp_lightNow G S x1.toNatClampNeg := by unfold sp_of; simp only [if_neg c_5, if_neg c_19_0, if_neg c_19_1, if_pos c_19_2]
          exact hw_iret C T rfl e9.symm rfl dX1_of_87
        · skip
          by_cases c_19_3 : x2 = 3
          · skip
            refine lv_tableIn (off := 69) (tgt := 88) hx hb dX1_of_19 (by rw [c_19_3]; decide) (by rw [c_19_3]; decide) (by rw [c_19_3]; decide +kernel) (by decide) ?_
            refine lv_aload_n hx hb dX1_of_88 rfl (lv_at hl 0 rfl) ?_
            refine va_getN (D := D) (ci := 0) (v := .int (S x1.toNatClampNeg 8)) (C := RX0) (T := TX0) (N := 13) hx hb hts hinS hown hK T.1 (x1.toNatClampNeg + 2) (hw_at (sx_lt h_16)) rfl 8 (by decide) (va_Nw.use rfl (hN (.fieldLinkNest RX1 67 "MoverHall$Sector" "mover" "I" "MoverHall") (by decide +kernel))) (fun _ h9 => h9) rfl dX1_of_89 ?_
            have e9 : sp_of G S n x1 x2 = S x1.toNatClampNeg 8 := by unfold sp_of; simp only [if_neg c_5, if_neg c_19_0, if_neg c_19_1, if_neg c_19_2, if_pos c_19_3]
            exact hw_iret C T rfl e9.symm rfl dX1_of_92
          · skip
            by_cases c_19_4 : x2 = 4
            · skip
              refine lv_tableIn (off := 74) (tgt := 93) hx hb dX1_of_19 (by rw [c_19_4]; decide) (by rw [c_19_4]; decide) (by rw [c_19_4]; decide +kernel) (by decide) ?_
              refine lv_aload_n hx hb dX1_of_93 rfl (lv_at hl 0 rfl) ?_
              refine va_getN (D := D) (ci := 0) (v := .int (S x1.toNatClampNeg 9)) (C := RX0) (T := TX0) (N := 13) hx hb hts hinS hown hK T.1 (x1.toNatClampNeg + 2) (hw_at (sx_lt h_16)) rfl 9 (by decide) (va_Nw.use rfl (hN (.fieldLinkNest RX1 74 "MoverHall$Sector" "way" "I" "MoverHall") (by decide +kernel))) (fun _ h9 => h9) rfl dX1_of_94 ?_
              have e9 : sp_of G S n x1 x2 = S x1.toNatClampNeg 9 := by unfold sp_of; simp only [if_neg c_5, if_neg c_19_0, if_neg c_19_1, if_neg c_19_2, if_neg c_19_3, if_pos c_19_4]
              exact hw_iret C T rfl e9.symm rfl dX1_of_97
            · skip
              by_cases c_19_5 : x2 = 5
              · skip
                refine lv_tableIn (off := 79) (tgt := 98) hx hb dX1_of_19 (by rw [c_19_5]; decide) (by rw [c_19_5]; decide) (by rw [c_19_5]; decide +kernel) (by decide) ?_
                refine lv_aload_n hx hb dX1_of_98 rfl (lv_at hl 0 rfl) ?_
                refine va_getN (D := D) (ci := 0) (v := .int (S x1.toNatClampNeg 10)) (C := RX0) (T := TX0) (N := 13) hx hb hts hinS hown hK T.1 (x1.toNatClampNeg + 2) (hw_at (sx_lt h_16)) rfl 10 (by decide) (va_Nw.use rfl (hN (.fieldLinkNest RX1 100 "MoverHall$Sector" "waitLeft" "I" "MoverHall") (by decide +kernel))) (fun _ h9 => h9) rfl dX1_of_99 ?_
                have e9 : sp_of G S n x1 x2 = S x1.toNatClampNeg 10 := by unfold sp_of; simp only [if_neg c_5, if_neg c_19_0, if_neg c_19_1, if_neg c_19_2, if_neg c_19_3, if_neg c_19_4, if_pos c_19_5]
                exact hw_iret C T rfl e9.symm rfl dX1_of_102
              · skip
                by_cases c_19_6 : x2 = 6
                · skip
                  refine lv_tableIn (off := 84) (tgt := 103) hx hb dX1_of_19 (by rw [c_19_6]; decide) (by rw [c_19_6]; decide) (by rw [c_19_6]; decide +kernel) (by decide) ?_
                  refine lv_aload_n hx hb dX1_of_103 rfl (lv_at hl 1 rfl) ?_
                  refine lv_aload_n hx hb dX1_of_104 rfl (lv_at hl 0 rfl) ?_
                  refine hw_Vi (As := [.ref (ad x1.toNatClampNeg)]) (rest := []) C T (c_H_lowFloor (sx_lt h_16) hG) (cwV 1 hts gX1_of_X1_lowFloor rfl rfl rfl (by decide +kernel) ⟨Nat.le_of_ble_eq_true rfl, Nat.le_of_ble_eq_true rfl⟩) hw_isH hw_ad rfl hl.1 rfl (Nat.le_of_ble_eq_true rfl) dX1_of_105 ⟨Nat.zero_le _, Nat.zero_le _⟩ (fun H locs T => ?_)
                  have e9 : sp_of G S n x1 x2 = sp_lowFloor S n x1.toNatClampNeg := by unfold sp_of; simp only [if_neg c_5, if_neg c_19_0, if_neg c_19_1, if_neg c_19_2, if_neg c_19_3, if_neg c_19_4, if_neg c_19_5, if_pos c_19_6]
                  exact hw_iret C T rfl e9.symm rfl dX1_of_108
                · skip
                  by_cases c_19_7 : x2 = 7
                  · skip
                    refine lv_tableIn (off := 90) (tgt := 109) hx hb dX1_of_19 (by rw [c_19_7]; decide) (by rw [c_19_7]; decide) (by rw [c_19_7]; decide +kernel) (by decide) ?_
                    refine lv_aload_n hx hb dX1_of_109 rfl (lv_at hl 1 rfl) ?_
                    refine lv_aload_n hx hb dX1_of_110 rfl (lv_at hl 0 rfl) ?_
                    refine hw_Vi (As := [.ref (ad x1.toNatClampNeg)]) (rest := []) C T (c_H_highFloor (sx_lt h_16) hG) (cwV 1 hts gX1_of_X1_highFloor rfl rfl rfl (by decide +kernel) ⟨Nat.le_of_ble_eq_true rfl, Nat.le_of_ble_eq_true rfl⟩) hw_isH hw_ad rfl hl.1 rfl (Nat.le_of_ble_eq_true rfl) dX1_of_111 ⟨Nat.zero_le _, Nat.zero_le _⟩ (fun H locs T => ?_)
                    have e9 : sp_of G S n x1 x2 = sp_highFloor S n x1.toNatClampNeg := by unfold sp_of; simp only [if_neg c_5, if_neg c_19_0, if_neg c_19_1, if_neg c_19_2, if_neg c_19_3, if_neg c_19_4, if_neg c_19_5, if_neg c_19_6, if_pos c_19_7]
                    exact hw_iret C T rfl e9.symm rfl dX1_of_114
                  · skip
                    by_cases c_19_8 : x2 = 8
                    · skip
                      refine lv_tableIn (off := 96) (tgt := 115) hx hb dX1_of_19 (by rw [c_19_8]; decide) (by rw [c_19_8]; decide) (by rw [c_19_8]; decide +kernel) (by decide) ?_
                      refine lv_aload_n hx hb dX1_of_115 rfl (lv_at hl 1 rfl) ?_
                      refine lv_aload_n hx hb dX1_of_116 rfl (lv_at hl 0 rfl) ?_
                      refine hw_Vi (As := [.ref (ad x1.toNatClampNeg)]) (rest := []) C T (c_H_lowCeiling (sx_lt h_16) hG) (cwV 1 hts gX1_of_X1_lowCeiling rfl rfl rfl (by decide +kernel) ⟨Nat.le_of_ble_eq_true rfl, Nat.le_of_ble_eq_true rfl⟩) hw_isH hw_ad rfl hl.1 rfl (Nat.le_of_ble_eq_true rfl) dX1_of_117 ⟨Nat.zero_le _, Nat.zero_le _⟩ (fun H locs T => ?_)
                      have e9 : sp_of G S n x1 x2 = sp_lowCeiling S n x1.toNatClampNeg := by unfold sp_of; simp only [if_neg c_5, if_neg c_19_0, if_neg c_19_1, if_neg c_19_2, if_neg c_19_3, if_neg c_19_4, if_neg c_19_5, if_neg c_19_6, if_neg c_19_7, if_pos c_19_8]
                      exact hw_iret C T rfl e9.symm rfl dX1_of_120
                    · skip
                      by_cases c_19_9 : x2 = 9
                      · skip
                        refine lv_tableIn (off := 102) (tgt := 121) hx hb dX1_of_19 (by rw [c_19_9]; decide) (by rw [c_19_9]; decide) (by rw [c_19_9]; decide +kernel) (by decide) ?_
                        refine lv_aload_n hx hb dX1_of_121 rfl (lv_at hl 0 rfl) ?_
                        refine va_getN (D := D) (ci := 0) (v := .int (S x1.toNatClampNeg 11)) (C := RX0) (T := TX0) (N := 13) hx hb hts hinS hown hK T.1 (x1.toNatClampNeg + 2) (hw_at (sx_lt h_16)) rfl 11 (by decide) (va_Nw.use rfl (hN (.fieldLinkNest RX1 112 "MoverHall$Sector" "wayEnd" "I" "MoverHall") (by decide +kernel))) (fun _ h9 => h9) rfl dX1_of_122 ?_
                        have e9 : sp_of G S n x1 x2 = S x1.toNatClampNeg 11 := by unfold sp_of; simp only [if_neg c_5, if_neg c_19_0, if_neg c_19_1, if_neg c_19_2, if_neg c_19_3, if_neg c_19_4, if_neg c_19_5, if_neg c_19_6, if_neg c_19_7, if_neg c_19_8, if_pos c_19_9]
                        exact hw_iret C T rfl e9.symm rfl dX1_of_125
                      · skip
                        refine lv_tableOut (tgt := 126) hx hb dX1_of_19 (by have z0 := lv_neT (a := 0) c_19_0 (by decide); have z1 := lv_neT (a := 1) c_19_1 (by decide); have z2 := lv_neT (a := 2) c_19_2 (by decide); have z3 := lv_neT (a := 3) c_19_3 (by decide); have z4 := lv_neT (a := 4) c_19_4 (by decide); have z5 := lv_neT (a := 5) c_19_5 (by decide); have z6 := lv_neT (a := 6) c_19_6 (by decide); have z7 := lv_neT (a := 7) c_19_7 (by decide); have z8 := lv_neT (a := 8) c_19_8 (by decide); have z9 := lv_neT (a := 9) c_19_9 (by decide); omega) (by decide) ?_
                        refine lv_ldc (v := 100000) hx hb hown (hts (.constant RX1 89 100000) (by decide +kernel)) dX1_of_126 ?_
                        have e9 : sp_of G S n x1 x2 = 100000 := by unfold sp_of; simp only [if_neg c_5, if_neg c_19_0, if_neg c_19_1, if_neg c_19_2, if_neg c_19_3, if_neg c_19_4, if_neg c_19_5, if_neg c_19_6, if_neg c_19_7, if_neg c_19_8, if_neg c_19_9]
                        exact hw_iret C T rfl e9.symm rfl dX1_of_128
  · skip
    refine lv_ldc (v := 100000) hx hb hown (hts (.constant RX1 89 100000) (by decide +kernel)) dX1_of_8 ?_
    have e9 : sp_of G S n x1 x2 = 100000 := by unfold sp_of; simp only [if_pos c_5]
    exact hw_iret C T rfl e9.symm rfl dX1_of_10
/-- are, its picture -/
def sp_are (G : Nat → Int32) (S : Nat → Nat → Int32) (x1 : Int32) (x2 : Int32) : Int32 := if (sp_isSector G x1) = 0 then 0 else (if (sp_isSector G x2) = 0 then 0 else (if (sp_hasNeighbour S x1.toNatClampNeg x2) = 0 then 0 else 1))
theorem sx_are {G : Nat → Int32} {S : Nat → Nat → Int32} {n : Nat} {x1 x2 : Int32} (h : hg_n G n) (c : ¬ sp_are G S x1 x2 = 0) : vp_in x1 32 ∧ vp_in x2 32 := by
  unfold sp_are at c
  by_cases h1 : sp_isSector G x1 = 0
  · simp [h1] at c
  · by_cases h2 : sp_isSector G x2 = 0
    · simp [h2] at c
    · exact ⟨sx_in h h1, sx_in h h2⟩
set_option maxHeartbeats 4000000 in
set_option maxRecDepth 100000 in
theorem c_H_are {x1 : Int32} {x2 : Int32} (hG : hg_n G n) : MI l D ((cA, .object RX0) :: tz) yX1_are wsX1_are { frames := 1, cells := 0, slots := 0, locals := 21 } [.ref h, .int x1, .int x2] (hw_W h a ad cA G S) (sp_are G S x1 x2) (hw_W h a ad cA G S) := by
  refine MI.start (cc := cX1_are) (maxL := 3) (by decide) rfl (Nat.le_of_ble_eq_true rfl) (fun p e s m args below meth c A ls C T hl => ?_)
  have hx := C.1.1
  have hb := C.1.2.1
  have hml := C.1.2.2.1
  have hown : s.vm.findClass RX1 = some m.cls := C.1.2.2.2.1
  have hts := C.1.2.2.2.2
  have hK := C.2.2.2.1
  have hN := C.2.2.2.2.1
  have hinH : ∀ w ∈ wsX10, w ∈ wsX1_are := by decide +kernel
  have hn32 := hG.1
  have hl : lv_has ls 3 [(0, .ref h), (1, .int x1), (2, .int x2)] := hl
  refine lv_aload_n hx hb dX1_are_0 rfl (lv_at hl 0 rfl) ?_
  refine lv_iload_n hx hb dX1_are_1 rfl (lv_at hl 1 rfl) ?_
  refine hw_Vi (As := [.int x1]) (rest := []) C T (c_H_isSector) (cwV 1 hts gX1_are_X1_isSector rfl rfl rfl (by decide +kernel) ⟨Nat.le_of_ble_eq_true rfl, Nat.le_of_ble_eq_true rfl⟩) hw_isH hw_ad rfl hl.1 rfl (Nat.le_of_ble_eq_true rfl) dX1_are_2 ⟨Nat.zero_le _, Nat.zero_le _⟩ (fun H locs T => ?_)
  refine lv_if_eq (tgt := 33) hx hb dX1_are_5 (by decide) (fun c_5 => ?_) (fun c_5 => ?_)
  · skip
    refine lv_iconst (v := 0) hx hb dX1_are_33 (by decide) ?_
    have e9 : sp_are G S x1 x2 = 0 := by unfold sp_are; simp only [if_pos c_5]
    exact hw_iret C T (by decide) e9.symm rfl dX1_are_34
  · skip
    refine lv_aload_n hx hb dX1_are_8 rfl (lv_at hl 0 rfl) ?_
    refine lv_iload_n hx hb dX1_are_9 rfl (lv_at hl 2 rfl) ?_
    refine hw_Vi (As := [.int x2]) (rest := []) C T (c_H_isSector) (cwV 1 hts gX1_are_X1_isSector rfl rfl rfl (by decide +kernel) ⟨Nat.le_of_ble_eq_true rfl, Nat.le_of_ble_eq_true rfl⟩) hw_isH hw_ad rfl hl.1 rfl (Nat.le_of_ble_eq_true rfl) dX1_are_10 ⟨Nat.zero_le _, Nat.zero_le _⟩ (fun H locs T => ?_)
    refine lv_if_eq (tgt := 33) hx hb dX1_are_13 (by decide) (fun c_13 => ?_) (fun c_13 => ?_)
    · skip
      refine lv_iconst (v := 0) hx hb dX1_are_33 (by decide) ?_
      have e9 : sp_are G S x1 x2 = 0 := by unfold sp_are; simp only [if_neg c_5, if_pos c_13]
      exact hw_iret C T (by decide) e9.symm rfl dX1_are_34
    · skip
      refine lv_aload_n hx hb dX1_are_16 rfl (lv_at hl 0 rfl) ?_
      refine va_get (D := D) (ci := 1) (v := .ref a) (C := RX1) (T := TX1) (N := 7) hx hb hts hinH hown hK T.1 0 rfl rfl 0 (by decide) (hts (.fieldLink RX1 11 "MoverHall" "sectors" "[LMoverHall$Sector;") (by decide +kernel)) (fun _ h9 => h9) rfl dX1_are_17 ?_
      refine lv_iload_n hx hb dX1_are_20 rfl (lv_at hl 1 rfl) ?_
      have h_21 : vp_in x1 32 := (sx_in hG c_5)
      refine va_aldq hx hb hK T.1 1 0 rfl rfl h_21 dX1_are_21 ?_
      refine W.eq (g2 := F0 m 22 ls [.ref (ad x1.toNatClampNeg)]) rfl ?_
      refine lv_iload_n hx hb dX1_are_22 rfl (lv_at hl 2 rfl) ?_
      refine hw_Ni (As := [.int x2]) (rest := []) C T (c_S_hasNeighbour (sx_lt h_21)) ⟨va_cnB 1 hts gX1_are_X0_hasNeighbour_n42 rfl rfl rfl (hN (.methodLinkNest RX1 42 yX0_hasNeighbour "MoverHall") (by decide +kernel)) (hts (.initialized RX0) (by decide +kernel)) (by decide +kernel) ⟨Nat.le_of_ble_eq_true rfl, Nat.le_of_ble_eq_true rfl⟩, hts (.instanceMethod yX0_hasNeighbour) (by decide +kernel), hts (.selects RX0 yX0_hasNeighbour yX0_hasNeighbour) (by decide +kernel)⟩ (hw_isS (sx_lt h_21)) hw_ad rfl hl.1 rfl (Nat.le_of_ble_eq_true rfl) dX1_are_23 ⟨Nat.zero_le _, Nat.zero_le _⟩ (fun H locs T => ?_)
      refine lv_if_eq (tgt := 33) hx hb dX1_are_26 (by decide) (fun c_26 => ?_) (fun c_26 => ?_)
      · skip
        refine lv_iconst (v := 0) hx hb dX1_are_33 (by decide) ?_
        have e9 : sp_are G S x1 x2 = 0 := by unfold sp_are; simp only [if_neg c_5, if_neg c_13, if_pos c_26]
        exact hw_iret C T (by decide) e9.symm rfl dX1_are_34
      · skip
        refine lv_iconst (v := 1) hx hb dX1_are_29 (by decide) ?_
        refine lv_goto (tgt := 34) hx hb dX1_are_30 (by decide) ?_
        have e9 : sp_are G S x1 x2 = 1 := by unfold sp_are; simp only [if_neg c_5, if_neg c_13, if_neg c_26]
        exact hw_iret C T (by decide) e9.symm rfl dX1_are_34
/-- open, its picture -/
def sp_open (G : Nat → Int32) (S : Nat → Nat → Int32) (x1 : Int32) (x2 : Int32) : Int32 := if (sp_are G S x1 x2) = 0 then 0 else (if 24 < ((S x2.toNatClampNeg 6) - (S x1.toNatClampNeg 6)) then 0 else (if ((sp_min (S x1.toNatClampNeg 7) (S x2.toNatClampNeg 7)) - (sp_max (S x1.toNatClampNeg 6) (S x2.toNatClampNeg 6))) < 56 then 0 else 1))
set_option maxHeartbeats 4000000 in
set_option maxRecDepth 100000 in
theorem c_H_open {x1 : Int32} {x2 : Int32} (hG : hg_n G n) : MI l D ((cA, .object RX0) :: tz) yX1_open wsX1_open { frames := 2, cells := 0, slots := 0, locals := 43 } [.ref h, .int x1, .int x2] (hw_W h a ad cA G S) (sp_open G S x1 x2) (hw_W h a ad cA G S) := by
  refine MI.start (cc := cX1_open) (maxL := 6) (by decide) rfl (Nat.le_of_ble_eq_true rfl) (fun p e s m args below meth c A ls C T hl => ?_)
  have hx := C.1.1
  have hb := C.1.2.1
  have hml := C.1.2.2.1
  have hown : s.vm.findClass RX1 = some m.cls := C.1.2.2.2.1
  have hts := C.1.2.2.2.2
  have hK := C.2.2.2.1
  have hN := C.2.2.2.2.1
  have hinH : ∀ w ∈ wsX10, w ∈ wsX1_open := by decide +kernel
  have hinS : ∀ w ∈ wsX00, w ∈ wsX1_open := by decide +kernel
  have hn32 := hG.1
  have hl : lv_has ls 6 [(0, .ref h), (1, .int x1), (2, .int x2)] := hl
  refine lv_aload_n hx hb dX1_open_0 rfl (lv_at hl 0 rfl) ?_
  refine lv_iload_n hx hb dX1_open_1 rfl (lv_at hl 1 rfl) ?_
  refine lv_iload_n hx hb dX1_open_2 rfl (lv_at hl 2 rfl) ?_
  refine hw_Vi (As := [.int x1, .int x2]) (rest := []) C T (c_H_are hG) (cwV 2 hts gX1_open_X1_are rfl rfl rfl (by decide +kernel) ⟨Nat.le_of_ble_eq_true rfl, Nat.le_of_ble_eq_true rfl⟩) hw_isH hw_ad rfl hl.1 rfl (Nat.le_of_ble_eq_true rfl) dX1_open_3 ⟨Nat.zero_le _, Nat.zero_le _⟩ (fun H locs T => ?_)
  refine lv_if_ne (tgt := 11) hx hb dX1_open_6 (by decide) (fun c_6 => ?_) (fun c_6 => ?_)
  · skip
    refine lv_aload_n hx hb dX1_open_11 rfl (lv_at hl 0 rfl) ?_
    refine va_get (D := D) (ci := 1) (v := .ref a) (C := RX1) (T := TX1) (N := 7) hx hb hts hinH hown hK T.1 0 rfl rfl 0 (by decide) (hts (.fieldLink RX1 11 "MoverHall" "sectors" "[LMoverHall$Sector;") (by decide +kernel)) (fun _ h9 => h9) rfl dX1_open_12 ?_
    refine lv_iload_n hx hb dX1_open_15 rfl (lv_at hl 1 rfl) ?_
    have h_16 : vp_in x1 32 := (sx_are hG c_6).1
    refine va_aldq hx hb hK T.1 1 0 rfl rfl h_16 dX1_open_16 ?_
    refine W.eq (g2 := F0 m 17 ls [.ref (ad x1.toNatClampNeg)]) rfl ?_
    refine lv_astore_n (lv' := [(3, .ref (ad x1.toNatClampNeg)), (0, .ref h), (1, .int x1), (2, .int x2)]) hx hb dX1_open_17 rfl hl (by decide) rfl (fun ls hl => ?_)
    refine lv_aload_n hx hb dX1_open_18 rfl (lv_at hl 1 rfl) ?_
    refine va_get (D := D) (ci := 1) (v := .ref a) (C := RX1) (T := TX1) (N := 7) hx hb hts hinH hown hK T.1 0 rfl rfl 0 (by decide) (hts (.fieldLink RX1 11 "MoverHall" "sectors" "[LMoverHall$Sector;") (by decide +kernel)) (fun _ h9 => h9) rfl dX1_open_19 ?_
    refine lv_iload_n hx hb dX1_open_22 rfl (lv_at hl 3 rfl) ?_
    have h_23 : vp_in x2 32 := (sx_are hG c_6).2
    refine va_aldq hx hb hK T.1 1 0 rfl rfl h_23 dX1_open_23 ?_
    refine W.eq (g2 := F0 m 24 ls [.ref (ad x2.toNatClampNeg)]) rfl ?_
    refine lv_astore (lv' := [(4, .ref (ad x2.toNatClampNeg)), (3, .ref (ad x1.toNatClampNeg)), (0, .ref h), (1, .int x1), (2, .int x2)]) hx hb dX1_open_24 hl (by decide) rfl (fun ls hl => ?_)
    refine lv_aload_n hx hb dX1_open_26 rfl (lv_at hl 1 rfl) ?_
    refine va_getN (D := D) (ci := 0) (v := .int (S x1.toNatClampNeg 7)) (C := RX0) (T := TX0) (N := 13) hx hb hts hinS hown hK T.1 (x1.toNatClampNeg + 2) (hw_at (sx_lt h_16)) rfl 7 (by decide) (va_Nw.use rfl (hN (.fieldLinkNest RX1 93 "MoverHall$Sector" "ceiling" "I" "MoverHall") (by decide +kernel))) (fun _ h9 => h9) rfl dX1_open_27 ?_
    refine lv_aload hx hb dX1_open_30 (lv_at hl 0 rfl) ?_
    refine va_getN (D := D) (ci := 0) (v := .int (S x2.toNatClampNeg 7)) (C := RX0) (T := TX0) (N := 13) hx hb hts hinS hown hK T.1 (x2.toNatClampNeg + 2) (hw_at (sx_lt h_23)) rfl 7 (by decide) (va_Nw.use rfl (hN (.fieldLinkNest RX1 93 "MoverHall$Sector" "ceiling" "I" "MoverHall") (by decide +kernel))) (fun _ h9 => h9) rfl dX1_open_32 ?_
    refine va_mmin hx hb (by rw [hml, hl.1]) hown (hts (.methodLink RX1 118 Lib.Math.min.name) (by decide +kernel)) (hts (.static Lib.Math.min.name) (by decide +kernel)) (hts (.initialized "java/lang/Math") (by decide +kernel)) (hts (.code Lib.Math.min.name Lib.Math.min.code 2 (some .int)) (by decide +kernel)) (Nat.le_of_ble_eq_true rfl) (Nat.le_of_ble_eq_true rfl) (Nat.zero_le _) (Nat.zero_le _) dX1_open_35 ?_
    refine W.eq (g2 := F0 m 38 ls [.int (sp_min (S x1.toNatClampNeg 7) (S x2.toNatClampNeg 7))]) rfl ?_
    refine lv_aload_n hx hb dX1_open_38 rfl (lv_at hl 1 rfl) ?_
    refine va_getN (D := D) (ci := 0) (v := .int (S x1.toNatClampNeg 6)) (C := RX0) (T := TX0) (N := 13) hx hb hts hinS hown hK T.1 (x1.toNatClampNeg + 2) (hw_at (sx_lt h_16)) rfl 6 (by decide) (va_Nw.use rfl (hN (.fieldLinkNest RX1 90 "MoverHall$Sector" "floor" "I" "MoverHall") (by decide +kernel))) (fun _ h9 => h9) rfl dX1_open_39 ?_
    refine lv_aload hx hb dX1_open_42 (lv_at hl 0 rfl) ?_
    refine va_getN (D := D) (ci := 0) (v := .int (S x2.toNatClampNeg 6)) (C := RX0) (T := TX0) (N := 13) hx hb hts hinS hown hK T.1 (x2.toNatClampNeg + 2) (hw_at (sx_lt h_23)) rfl 6 (by decide) (va_Nw.use rfl (hN (.fieldLinkNest RX1 90 "MoverHall$Sector" "floor" "I" "MoverHall") (by decide +kernel))) (fun _ h9 => h9) rfl dX1_open_44 ?_
    refine va_mmax hx hb (by rw [hml, hl.1]) hown (hts (.methodLink RX1 124 Lib.Math.max.name) (by decide +kernel)) (hts (.static Lib.Math.max.name) (by decide +kernel)) (hts (.initialized "java/lang/Math") (by decide +kernel)) (hts (.code Lib.Math.max.name Lib.Math.max.code 2 (some .int)) (by decide +kernel)) (Nat.le_of_ble_eq_true rfl) (Nat.le_of_ble_eq_true rfl) (Nat.zero_le _) (Nat.zero_le _) dX1_open_47 ?_
    refine W.eq (g2 := F0 m 50 ls [.int (sp_max (S x1.toNatClampNeg 6) (S x2.toNatClampNeg 6)), .int (sp_min (S x1.toNatClampNeg 7) (S x2.toNatClampNeg 7))]) rfl ?_
    refine lv_isub hx hb dX1_open_50 ?_
    refine lv_istore (lv' := [(5, .int ((sp_min (S x1.toNatClampNeg 7) (S x2.toNatClampNeg 7)) - (sp_max (S x1.toNatClampNeg 6) (S x2.toNatClampNeg 6)))), (4, .ref (ad x2.toNatClampNeg)), (3, .ref (ad x1.toNatClampNeg)), (0, .ref h), (1, .int x1), (2, .int x2)]) hx hb dX1_open_51 hl (by decide) rfl (fun ls hl => ?_)
    refine lv_aload hx hb dX1_open_53 (lv_at hl 1 rfl) ?_
    refine va_getN (D := D) (ci := 0) (v := .int (S x2.toNatClampNeg 6)) (C := RX0) (T := TX0) (N := 13) hx hb hts hinS hown hK T.1 (x2.toNatClampNeg + 2) (hw_at (sx_lt h_23)) rfl 6 (by decide) (va_Nw.use rfl (hN (.fieldLinkNest RX1 90 "MoverHall$Sector" "floor" "I" "MoverHall") (by decide +kernel))) (fun _ h9 => h9) rfl dX1_open_55 ?_
    refine lv_aload_n hx hb dX1_open_58 rfl (lv_at hl 2 rfl) ?_
    refine va_getN (D := D) (ci := 0) (v := .int (S x1.toNatClampNeg 6)) (C := RX0) (T := TX0) (N := 13) hx hb hts hinS hown hK T.1 (x1.toNatClampNeg + 2) (hw_at (sx_lt h_16)) rfl 6 (by decide) (va_Nw.use rfl (hN (.fieldLinkNest RX1 90 "MoverHall$Sector" "floor" "I" "MoverHall") (by decide +kernel))) (fun _ h9 => h9) rfl dX1_open_59 ?_
    refine lv_isub hx hb dX1_open_62 ?_
    refine lv_bipush (v := 24) hx hb dX1_open_63 (by decide) ?_
    refine lv_icmp_gt (tgt := 79) hx hb dX1_open_65 (by decide) (fun c_65 => ?_) (fun c_65 => ?_)
    · skip
      refine lv_iconst (v := 0) hx hb dX1_open_79 (by decide) ?_
      have e9 : sp_open G S x1 x2 = 0 := by unfold sp_open; simp only [if_neg c_6, if_pos c_65]
      exact hw_iret C T (by decide) e9.symm rfl dX1_open_80
    · skip
      refine lv_iload hx hb dX1_open_68 (lv_at hl 0 rfl) ?_
      refine lv_bipush (v := 56) hx hb dX1_open_70 (by decide) ?_
      refine lv_icmp_lt (tgt := 79) hx hb dX1_open_72 (by decide) (fun c_72 => ?_) (fun c_72 => ?_)
      · skip
        refine lv_iconst (v := 0) hx hb dX1_open_79 (by decide) ?_
        have e9 : sp_open G S x1 x2 = 0 := by unfold sp_open; simp only [if_neg c_6, if_neg c_65, if_pos c_72]
        exact hw_iret C T (by decide) e9.symm rfl dX1_open_80
      · skip
        refine lv_iconst (v := 1) hx hb dX1_open_75 (by decide) ?_
        refine lv_goto (tgt := 80) hx hb dX1_open_76 (by decide) ?_
        have e9 : sp_open G S x1 x2 = 1 := by unfold sp_open; simp only [if_neg c_6, if_neg c_65, if_neg c_72]
        exact hw_iret C T (by decide) e9.symm rfl dX1_open_80
  · skip
    refine lv_iconst (v := 0) hx hb dX1_open_9 (by decide) ?_
    have e9 : sp_open G S x1 x2 = 0 := by unfold sp_open; simp only [if_pos c_6]
    exact hw_iret C T (by decide) e9.symm rfl dX1_open_10
end
end
section
/-! THE HALL's constructors: 32 new sectors, all zero; nobody is anywhere. -/
section CTOR
variable {p : Program} {l : Launch} {e : Env} {R : Room} {s : State} {m : MethodId} {args : Array Value} {below : List Frame} {meth : Method} {c : Code} {H : Heap} {locs : List Loc} {cells slots : Nat} {Q : State → Prop}
variable {cc : ByteArray} {ret : Option FieldType} {nL : Nat} {Ts : List Cond} {own : String} {D : va_G} {tys : List (ClassId × FieldType)} {A : Nat → Prop} {w w' : va_W}
variable {y : MethodName} {bytes : ByteArray} {maxL n index : Nat} {ws : List Cond} {rm : Room} {host : String} {b : Addr} {As rest st : List Value} {pc : Nat} {ls : Array Slot}
theorem hw_NI (C : hw_C p s m args meth c cc ret nL Ts own D tys A) (T : hw_T D A s.heap w H locs) (hM : MV l D tys y ws rm (.ref b :: As) w w') (cw : va_CN R s args own index y host bytes maxL none ws rm 0 0 n ∧ y.name = "<init>" ∧ (Cond.instanceMethod y).before args s = true) (ha : w'.map Prod.fst = w.map Prod.fst)
    (hn : As.length = n) (hls : ls.size = nL) (hst : st = As.reverse ++ .ref b :: rest) (hroom : (rest.map fun v => v.category).sum ≤ 8) (hdg : decode cc pc = .ok (.invokespecial index, 3)) (hR : cells + 0 ≤ R.cells ∧ slots + 0 ≤ R.slots)
    (kk : ∀ (H1 : Heap) (locs1 : List Loc), hw_T D A s.heap w' H1 locs1 → W p l e R s m args below meth c H1 locs1 cells slots Q (F0 m (pc + 3) ls rest)) : W p l e R s m args below meth c H locs cells slots Q (F0 m pc ls st) :=
  hw_backv C T ha (va_runIN C.1 (hM H.size) cw ⟨hw_blind, fun U hU hW => ⟨rfl, hw_pre C T U hU hW⟩⟩ rfl hn hls hst (lv_room hroom) hdg hR) kk
end CTOR
set_option maxHeartbeats 4000000 in
set_option maxRecDepth 100000 in
/-- Sector(): nothing changes -/
theorem c_S_init {l : Launch} {D : va_G} {tys : List (ClassId × FieldType)} {w : va_W} {b : Nat} : MV l D tys yX0_init wsX0_init { frames := 1, cells := 0, slots := 0, locals := 12 } [.ref b] w w := by
  refine MV.start (cc := cX0_init) (maxL := 1) (by decide) rfl (Nat.le_of_ble_eq_true rfl) (fun p e s m args below meth c A ls C T hl => ?_)
  have hx := C.1.1
  have hb := C.1.2.1
  have hml := C.1.2.2.1
  have hown : s.vm.findClass RX0 = some m.cls := C.1.2.2.2.1
  have hts := C.1.2.2.2.2
  have hl : lv_has ls 1 [(0, .ref b)] := hl
  refine lv_aload_n hx hb dX0_init_0 rfl (lv_at hl 0 rfl) ?_
  refine W.objInit hx hb hown (hts (.methodLink RX0 3 objectInit) (by decide +kernel)) (hts (.instanceMethod objectInit) (by decide +kernel)) (hts (.code objectInit ⟨#[0xb1]⟩ 1 none) (by decide +kernel)) rfl (by rw [hml]; exact hl.1) rfl dX0_init_1 (Nat.le_of_ble_eq_true rfl) (Nat.le_of_ble_eq_true rfl) ?_
  refine W.eq (g2 := F0 m 4 ls []) rfl ?_
  exact hw_vret C T rfl dX0_init_4
def hc_f (ad : Nat → Nat) (i : Nat) : Nat → Option Nat := fun j => if j < i then some (ad j) else none
def hc_W (h a : Nat) (ad : Nat → Nat) (cA : ClassId) (i : Nat) : va_W := (h, .inr (1, hh_fl a (fun _ => 0))) :: (a, .inl (cA, 32, .inr (.inr (.inr (.inr (hc_f ad i)))))) :: (List.range i).map (fun j => (ad j, .inr (0, hs_fl (fun _ => 0))))
theorem hc_f_up (ad : Nat → Nat) (i q : Nat) : va_up (hc_f ad i) i (some q) = hc_f (va_up ad i q) (i + 1) := by
  funext j
  by_cases h1 : j = i
  · subst h1
    simp [va_up, hc_f]
  · by_cases h2 : j < i
    · have h3 : j < i + 1 := by omega
      simp [va_up, hc_f, h1, h2, h3]
    · have h3 : ¬ j < i + 1 := by omega
      simp [va_up, hc_f, h1, h2, h3]
theorem hc_push (h a : Nat) (ad : Nat → Nat) (cA : ClassId) (i q : Nat) : (hc_W h a ad cA i ++ ([(q, .inr (0, hs_fl (fun _ => 0)))] : va_W)).set 1 (a, .inl (cA, 32, .inr (.inr (.inr (.inr (va_up (hc_f ad i) i (some q))))))) = hc_W h a (va_up ad i q) cA (i + 1) := by
  rw [hc_f_up]
  show _ :: _ :: ((List.range i).map (fun j => (ad j, (.inr (0, hs_fl (fun _ => 0)) : va_E))) ++ [(q, .inr (0, hs_fl (fun _ => 0)))]) = _
  unfold hc_W
  rw [List.range_succ, List.map_append]
  have e : (List.range i).map (fun j => (ad j, (.inr (0, hs_fl (fun _ => 0)) : va_E))) = (List.range i).map (fun j => (va_up ad i q j, (.inr (0, hs_fl (fun _ => 0)) : va_E))) := by
    apply List.map_congr_left
    intro j hj
    have hj2 : j < i := List.mem_range.mp hj
    have hj3 : ¬ j = i := by omega
    simp [va_up, hj3]
  rw [e]
  simp [va_up]
theorem hc_end {D : va_G} {A : Nat → Prop} {H0 H : Heap} {locs : List Loc} {h a : Nat} {ad : Nat → Nat} {cA : ClassId} (T : hw_T D A H0 (hc_W h a ad cA 32) H locs) : hw_T D A H0 (hw_W h a ad cA (fun _ => 0) (fun _ _ => 0)) H locs := by
  refine ⟨fun k q hk => ?_, hw_D T.2.1 ?_, T.2.2⟩
  · match k, hk with
    | 0, hk => exact T.1 0 q hk
    | 1, hk =>
      have h1 := T.1 1 _ (show (hc_W h a ad cA 32)[1]? = some (a, .inl (cA, 32, .inr (.inr (.inr (.inr (hc_f ad 32)))))) from rfl)
      have h2 : q = (a, .inl (cA, 32, .inr (.inr (.inr (.inr (fun j => some (ad j))))))) := (Option.some.inj hk).symm
      subst h2
      show H[a]? = some (vp_cell _ _)
      have h3 : H[a]? = some (vp_cell cA (32, .inr (.inr (.inr (.inr (hc_f ad 32)))))) := h1
      rw [h3, vp_cell_q, vp_cell_q]
      congr 1
    | k + 2, hk => exact T.1 (k + 2) q hk
  · simp [hw_W, hs_pl, hc_W, Function.comp_def]
def hc_w0 (h : Nat) : va_W := [(h, .inr (1, [.null, .int 0, .int 0, .int 0, .int 0, .int 0, .int 0]))]
def hc_G : Nat → Int32 := upd (fun _ => 0) 5 (-1)
def hc_S : Nat → Nat → Int32 := fun _ _ => 0
abbrev hc_Q (D : va_G) (h : Nat) (A : Nat → Prop) : Array Value → State → Outcome → State → Prop := va_Qv (fun (_ : Nat × (Nat → Nat) × ClassId) => True) (fun u t => va_P D vwCl (hw_W h u.1 u.2.1 u.2.2 hc_G hc_S) t.heap ∧ va_D A (hw_W h u.1 u.2.1 u.2.2 hc_G hc_S) ∧ va_K D vwCl [(u.2.2, .object RX0)] t) A
set_option maxHeartbeats 4000000 in
set_option maxRecDepth 100000 in
theorem lp_init {l : Launch} {D : va_G} {h a : Nat} {cA : ClassId} {p : Program} {e : Env} {s : State} {m : MethodId} {args : Array Value} {below : List Frame} {meth : Method} {c : Code} {A : Nat → Prop} (C : hw_C p s m args meth c cX1_init none 2 wsX1_init yX1_init.cls D [(cA, .object RX0)] A) :
    ∀ (k i : Nat) (ad : Nat → Nat), i + k = 32 → ∀ (ls : Array Slot) (H : Heap) (locs : List Loc), hw_T D A s.heap (hc_W h a ad cA i) H locs → lv_has ls 2 [(0, .ref h), (1, .int (nI i))] → W p l e { frames := 2, cells := 33, slots := 448, locals := 40 } s m args below meth c H locs (1 + i) (32 + 13 * i) (MQ below (hc_Q D h A) args s 33 448 A) (F0 m 15 ls []) := by
  have hx := C.1.1
  have hb := C.1.2.1
  have hml := C.1.2.2.1
  have hown : s.vm.findClass RX1 = some m.cls := C.1.2.2.2.1
  have hts := C.1.2.2.2.2
  have hr := C.2.1
  have hlocks := C.2.2.1
  have hK := C.2.2.2.1
  have hN := C.2.2.2.2.1
  have hA := C.2.2.2.2.2
  have hinH : ∀ w ∈ wsX10, w ∈ wsX1_init := by decide +kernel
  have hinS : ∀ w ∈ wsX00, w ∈ wsX1_init := by decide +kernel
  intro k
  induction k with
  | zero =>
    intro i ad hik ls H locs T hl
    have hi : i = 32 := by omega
    subst hi
    refine lv_iload_n hx hb dX1_init_15 rfl (lv_at hl 1 rfl) ?_
    refine lv_bipush (v := 32) hx hb dX1_init_16 (by decide) ?_
    refine lv_icmp_ge (tgt := 40) hx hb dX1_init_18 (by decide) (fun c_18 => ?_) (fun c_18 => absurd (show (32 : Int32) ≤ nI 32 by decide) c_18)
    have T := hc_end T
    refine lv_aload_n hx hb dX1_init_40 rfl (lv_at hl 0 rfl) ?_
    refine lv_iconst (v := (-1)) hx hb dX1_init_41 (by decide) ?_
    refine va_put (D := D) (ci := 1) (v := .int (-1)) (ty := .int) (C := RX1) (T := TX1) (N := 7) hx hb hts hinH tyX1 tyX1_ok nmX1 hown hK T.1 T.2.1 T.2.2 0 rfl rfl 6 (by decide) (hts (.fieldLink RX1 16 "MoverHall" "guestSector" "I") (by decide +kernel)) (fun _ h9 => h9) rfl (by decide +kernel) rfl rfl (Nat.le_of_ble_eq_true rfl) dX1_init_42 (fun H locs hP hD hS => ?_)
    have T := hw_setH (k := 5) (v := (-1)) rfl ⟨hP, hD, hS⟩
    exact W.vret hx hb hr (fun t ht hW => ⟨⟨(a, ad, cA), rfl, trivial, by rw [ht]; exact T.1, T.2.1, va_K.moved hW.alike hK⟩, T.2.2.F ht⟩) T.2.2.2.2 dX1_init_45 hlocks
  | succ k ih =>
    intro i ad hik ls H locs T hl
    have hi : i < 32 := by omega
    refine lv_iload_n hx hb dX1_init_15 rfl (lv_at hl 1 rfl) ?_
    refine lv_bipush (v := 32) hx hb dX1_init_16 (by decide) ?_
    refine lv_icmp_ge (tgt := 40) hx hb dX1_init_18 (by decide) (fun c_18 => absurd c_18 (show ¬ nI 32 ≤ nI i from nI_ge hi (by decide))) (fun c_18 => ?_)
    refine lv_aload_n hx hb dX1_init_21 rfl (lv_at hl 0 rfl) ?_
    refine va_get (D := D) (ci := 1) (v := .ref a) (C := RX1) (T := TX1) (N := 7) hx hb hts hinH hown hK T.1 0 rfl rfl 0 (by decide) (hts (.fieldLink RX1 11 "MoverHall" "sectors" "[LMoverHall$Sector;") (by decide +kernel)) (fun _ h9 => h9) rfl dX1_init_22 ?_
    refine lv_iload_n hx hb dX1_init_25 rfl (lv_at hl 1 rfl) ?_
    refine va_new (ci := 0) (fs := hs_fl (fun _ => 0)) (C := RX0) (T := TX0) (N := 13) hx hb hts hinS tyX0 tyX0_ok hown (hts (.classLink RX1 9 RX0) (by decide +kernel)) (hts (.instantiable RX0 13) (by decide +kernel)) (hts (.initialized RX0) (by decide +kernel)) hK T.1 T.2.1 T.2.2 hA rfl (fun j hj => by rcases (show j = 0 ∨ j = 1 ∨ j = 2 ∨ j = 3 ∨ j = 4 ∨ j = 5 ∨ j = 6 ∨ j = 7 ∨ j = 8 ∨ j = 9 ∨ j = 10 ∨ j = 11 ∨ j = 12 by omega) with rfl | rfl | rfl | rfl | rfl | rfl | rfl | rfl | rfl | rfl | rfl | rfl | rfl <;> rfl) (show 1 + i + 1 ≤ 33 by omega) (show 32 + 13 * i + 13 ≤ 448 by omega) dX1_init_26 (fun q H hP hD hS => ?_)
    have T : hw_T D A s.heap (hc_W h a ad cA i ++ [(q, .inr (0, hs_fl (fun _ => 0)))]) H locs := ⟨hP, hD, hS⟩
    refine W.widen (k := 1 + (i + 1)) (n := 32 + 13 * (i + 1)) (by omega) (by omega) ?_
    refine lv_dup hx hb dX1_init_29 rfl ?_
    refine hw_NI (As := []) (rest := [.ref q, .int (nI i), .ref a]) C T c_S_init ⟨va_cnB 0 hts gX1_init_X0_init_n15 rfl rfl rfl (hN (.methodLinkNest RX1 15 yX0_init "MoverHall") (by decide +kernel)) (hts (.initialized RX0) (by decide +kernel)) (by decide +kernel) ⟨Nat.le_of_ble_eq_true rfl, Nat.le_of_ble_eq_true rfl⟩, rfl, hts (.instanceMethod yX0_init) (by decide +kernel)⟩ rfl rfl hl.1 rfl (Nat.le_of_ble_eq_true rfl) dX1_init_30 ⟨show 1 + (i + 1) + 0 ≤ 33 by omega, show 32 + 13 * (i + 1) + 0 ≤ 448 by omega⟩ (fun H locs T => ?_)
    have hq : (hc_W h a ad cA i ++ [(q, .inr (0, hs_fl (fun _ => 0)))])[i + 2]? = some (q, .inr (0, hs_fl (fun _ => 0))) := by
      rw [List.getElem?_append_right (by simp [hc_W])]
      simp [hc_W]
    refine va_astq hx hb hK T.1 T.2.1 T.2.2 1 0 (i + 2) 0 (r := (RX0, TX0, 13)) (f := hc_f ad i) rfl rfl hq rfl (vp_in_nI hi (by decide)) dX1_init_33 (fun H locs hP hD hS => ?_)
    rw [nI_clamp (show i < 2 ^ 31 by omega), hc_push] at hP hD
    refine lv_iinc (v := nI (i + 1)) (lv' := [(1, .int (nI (i + 1))), (0, .ref h)]) hx hb dX1_init_34 hl (k := 1) rfl (nI_1 i) (by decide) rfl (fun ls hl => ?_)
    refine lv_goto (tgt := 15) hx hb dX1_init_37 (by decide) ?_
    exact ih (i + 1) (va_up ad i q) (by omega) _ _ _ ⟨hP, hD, hS⟩ (lv_sub hl [1, 0] rfl)
set_option maxHeartbeats 4000000 in
set_option maxRecDepth 100000 in
/-- MoverHall(): no sectors -/
theorem c_H_init (l : Launch) (D : va_G) (h sz : Nat) : Met l yX1_init wsX1_init { frames := 2, cells := 33, slots := 448, locals := 40 } (va_Pc [.ref h] (fun U => hw_B D [] (hc_w0 h) sz U ∧ va_AO RX0 U)) (hc_Q D h (va_A (hc_w0 h) sz)) 33 448 (va_A (hc_w0 h) sz) := by
  refine Met.ofW (cc := cX1_init) (maxL := 2) (ret := none) (by decide) rfl ?_
  intro p e s m args below meth c s₁ B hml hv
  obtain ⟨rfl, ⟨hsz, hP, hK, hN, hD0⟩, hAO⟩ := hv
  have hx := B.exec
  have hb := B.bytes
  have hts := atoms_spec (ws := wsX1_init) B.pre
  have hown : s.vm.findClass RX1 = some m.cls := findClass_of_methodNamed B.named
  have hin : meth.name = "<init>" := (name_of_methodNamed B.named B.method).1
  have hinH : ∀ w ∈ wsX10, w ∈ wsX1_init := by decide +kernel
  subst hsz
  have hD := hD0.self (sz := s.heap.size)
  generalize hAe : va_A (hc_w0 h) s.heap.size = A at hD ⊢
  have hA : ∀ q : Nat, s.heap.size ≤ q → A q := fun q h => by rw [← hAe]; exact Or.inr h
  have hS : va_S A s.heap s.heap [] := va_S.rf
  have hl := lv_entry ([.ref h]) (n := 2) (Nat.le_of_ble_eq_true rfl)
  rw [lg_entry_eq]
  generalize (lg_sl ([.ref h]) ++ List.replicate (2 - (lg_sl ([.ref h])).length) Slot.unset).toArray = ls at hl ⊢
  have hl : lv_has ls 2 [(0, .ref h)] := hl
  refine lv_aload_n hx hb dX1_init_0 rfl (lv_at hl 0 rfl) ?_
  refine W.objInit hx hb hown (hts (.methodLink RX1 1 objectInit) (by decide +kernel)) (hts (.instanceMethod objectInit) (by decide +kernel)) (hts (.code objectInit ⟨#[0xb1]⟩ 1 none) (by decide +kernel)) rfl (by rw [hml]; exact hl.1) rfl dX1_init_1 (Nat.le_of_ble_eq_true rfl) (Nat.le_of_ble_eq_true rfl) ?_
  refine W.eq (g2 := F0 m 4 ls []) rfl ?_
  refine lv_aload_n hx hb dX1_init_4 rfl (lv_at hl 0 rfl) ?_
  refine lv_bipush (v := 32) hx hb dX1_init_5 (by decide) ?_
  refine va_newq (C := RX0) hx hb hown (hts (.classLink RX1 9 RX0) (by decide +kernel)) hAO hK hP hD hS hA (n := 32) (N' := 32) (by decide) (by decide) (by decide) (Nat.le_of_ble_eq_true rfl) (Nat.le_of_ble_eq_true rfl) dX1_init_7 (fun a cA H hK hP hD hS => ?_)
  have hK : va_K D vwCl [(cA, .object RX0)] s := hK
  have hP : va_P D vwCl [(h, .inr (1, [.null, .int 0, .int 0, .int 0, .int 0, .int 0, .int 0])), (a, .inl (cA, 32, .inr (.inr (.inr (.inr (fun _ => none))))))] H := hP
  have hD : va_D A [(h, .inr (1, [.null, .int 0, .int 0, .int 0, .int 0, .int 0, .int 0])), (a, .inl (cA, 32, .inr (.inr (.inr (.inr (fun _ => none))))))] := hD
  refine va_putF (D := D) (ci := 1) (v := .ref a) (ty := tyX1 0) (C := RX1) (T := TX1) (N := 7) hx hb hts hinH tyX1 tyX1_ok nmX1 hown hK hP hD hS 0 rfl rfl 0 (by decide) (hts (.fieldLink RX1 11 "MoverHall" "sectors" "[LMoverHall$Sector;") (by decide +kernel)) (fun _ h9 => h9) rfl hin rfl (by decide +kernel) rfl rfl (Nat.le_of_ble_eq_true rfl) dX1_init_10 (fun H locs hP hD hS => ?_)
  refine W.widen (k := 1 + 0) (n := 32 + 13 * 0) (by omega) (by omega) ?_
  refine lv_iconst (v := 0) hx hb dX1_init_13 (by decide) ?_
  refine lv_istore_n (lv' := [(1, .int 0), (0, .ref h)]) hx hb dX1_init_14 rfl hl (by decide) rfl (fun ls hl => ?_)
  have T0 : hw_T D A s.heap (hc_W h a (fun _ => 0) cA 0) H locs := by
    unfold hc_W
    rw [show hc_f (fun _ => 0) 0 = (fun _ => none) from by funext j; simp [hc_f]]
    exact ⟨hP, hD, hS⟩
  exact lp_init (A := A) ⟨⟨hx, hb, hml, hown, hts⟩, B.returns, B.notSynchronized, hK, hN, hA⟩ 32 0 (fun _ => 0) (by omega) _ _ _ T0 (lv_sub hl [1, 0] rfl)
end
section
/-! THE REFERENCE's world: the object and its thirteen arrays. G: sectors, pairs, time, thrown, blocked, guest at 0 1 2 3 4 5; S j k: place j of array k (planFloors 0, planCeilings 1, lights 2, kinds 3, tags 4, floors 6, ceilings 7, movers 8, ways 9, waits 10, ends 11, homes 12); B: beside. -/
def md_fl (am : Nat → Nat) (G : Nat → Int32) : List Value := [.int (G 3), .int (G 0), .ref (am 0), .ref (am 1), .ref (am 2), .ref (am 3), .ref (am 4), .ref (am 5), .int (G 1), .ref (am 6), .ref (am 7), .ref (am 8), .ref (am 9), .ref (am 10), .ref (am 11), .ref (am 12), .int (G 2), .int (G 5), .int (G 4)]
def md_W (o : Nat) (am : Nat → Nat) (cm : Nat → ClassId) (G : Nat → Int32) (S : Nat → Nat → Int32) (B : Nat → Int32) : va_W := [(o, .inr (2, md_fl am G)), (am 0, .inl (cm 0, 32, .inl (fun j => S j 0))), (am 1, .inl (cm 1, 32, .inl (fun j => S j 1))), (am 2, .inl (cm 2, 32, .inl (fun j => S j 2))), (am 3, .inl (cm 3, 32, .inl (fun j => S j 3))), (am 4, .inl (cm 4, 32, .inl (fun j => S j 4))), (am 5, .inl (cm 5, 1024, .inl B)), (am 6, .inl (cm 6, 32, .inl (fun j => S j 6))), (am 7, .inl (cm 7, 32, .inl (fun j => S j 7))), (am 8, .inl (cm 8, 32, .inl (fun j => S j 8))), (am 9, .inl (cm 9, 32, .inl (fun j => S j 9))), (am 10, .inl (cm 10, 32, .inl (fun j => S j 10))), (am 11, .inl (cm 11, 32, .inl (fun j => S j 11))), (am 12, .inl (cm 12, 32, .inl (fun j => S j 12)))]
def md_tys (cm : Nat → ClassId) : List (ClassId × FieldType) := [(cm 0, .int), (cm 1, .int), (cm 2, .int), (cm 3, .int), (cm 4, .int), (cm 5, .boolean), (cm 6, .int), (cm 7, .int), (cm 8, .int), (cm 9, .int), (cm 10, .int), (cm 11, .int), (cm 12, .int)]
theorem md_ad {o : Nat} {am : Nat → Nat} {cm : Nat → ClassId} {G G' : Nat → Int32} {S S' : Nat → Nat → Int32} {B B' : Nat → Int32} : (md_W o am cm G' S' B').map Prod.fst = (md_W o am cm G S B).map Prod.fst := rfl
theorem md_isO {o : Nat} {am : Nat → Nat} {cm : Nat → ClassId} {G : Nat → Int32} {S : Nat → Nat → Int32} {B : Nat → Int32} : hw_is (md_W o am cm G S B) o RX3 := ⟨0, 2, _, _, rfl, rfl, rfl⟩
theorem up2_self {S : Nat → Nat → Int32} {i k : Nat} {v : Int32} : (fun j => up2 S i k v j k) = upd (fun j => S j k) i v := by
  funext j
  by_cases h : j = i
  · subst h
    simp [up2, upd]
  · simp [up2, upd, h]
theorem up2_ne {S : Nat → Nat → Int32} {i k k' : Nat} {v : Int32} (hk : k' ≠ k) : (fun j => up2 S i k v j k') = (fun j => S j k') := by
  funext j
  by_cases h : j = i
  · subst h
    simp [up2, upd, hk]
  · simp [up2, h]
section
variable {D : va_G} {A : Nat → Prop} {H0 H : Heap} {locs : List Loc} {o : Nat} {am : Nat → Nat} {cm : Nat → ClassId} {G : Nat → Int32} {S : Nat → Nat → Int32} {B : Nat → Int32} {v : Int32}
theorem md_setG {k kk : Nat} (hk : (md_fl am G).set kk (.int v) = md_fl am (upd G k v)) (T : hw_T D A H0 ((md_W o am cm G S B).set 0 (o, .inr (2, (md_fl am G).set kk (.int v)))) H locs) : hw_T D A H0 (md_W o am cm (upd G k v) S B) H locs := by
  rw [hk] at T
  exact T
theorem md_setB {i : Nat} (T : hw_T D A H0 ((md_W o am cm G S B).set 6 (am 5, .inl (cm 5, 1024, .inl (upd B i (vp_nar .boolean v))))) H locs) (hv : vp_nar .boolean v = v := by decide) : hw_T D A H0 (md_W o am cm G S (upd B i v)) H locs := by
  rw [hv] at T
  exact T
theorem md_set0 {i : Nat} (T : hw_T D A H0 ((md_W o am cm G S B).set 1 (am 0, .inl (cm 0, 32, .inl (upd (fun j => S j 0) i v)))) H locs) : hw_T D A H0 (md_W o am cm G (up2 S i 0 v) B) H locs := by
  have e : (md_W o am cm G S B).set 1 (am 0, .inl (cm 0, 32, .inl (upd (fun j => S j 0) i v))) = md_W o am cm G (up2 S i 0 v) B := by
    unfold md_W
    rw [up2_self, up2_ne (k := 0) (k' := 1) (by decide), up2_ne (k := 0) (k' := 2) (by decide), up2_ne (k := 0) (k' := 3) (by decide), up2_ne (k := 0) (k' := 4) (by decide), up2_ne (k := 0) (k' := 6) (by decide), up2_ne (k := 0) (k' := 7) (by decide), up2_ne (k := 0) (k' := 8) (by decide), up2_ne (k := 0) (k' := 9) (by decide), up2_ne (k := 0) (k' := 10) (by decide), up2_ne (k := 0) (k' := 11) (by decide), up2_ne (k := 0) (k' := 12) (by decide)]
    rfl
  rw [e] at T
  exact T
theorem md_set1 {i : Nat} (T : hw_T D A H0 ((md_W o am cm G S B).set 2 (am 1, .inl (cm 1, 32, .inl (upd (fun j => S j 1) i v)))) H locs) : hw_T D A H0 (md_W o am cm G (up2 S i 1 v) B) H locs := by
  have e : (md_W o am cm G S B).set 2 (am 1, .inl (cm 1, 32, .inl (upd (fun j => S j 1) i v))) = md_W o am cm G (up2 S i 1 v) B := by
    unfold md_W
    rw [up2_self, up2_ne (k := 1) (k' := 0) (by decide), up2_ne (k := 1) (k' := 2) (by decide), up2_ne (k := 1) (k' := 3) (by decide), up2_ne (k := 1) (k' := 4) (by decide), up2_ne (k := 1) (k' := 6) (by decide), up2_ne (k := 1) (k' := 7) (by decide), up2_ne (k := 1) (k' := 8) (by decide), up2_ne (k := 1) (k' := 9) (by decide), up2_ne (k := 1) (k' := 10) (by decide), up2_ne (k := 1) (k' := 11) (by decide), up2_ne (k := 1) (k' := 12) (by decide)]
    rfl
  rw [e] at T
  exact T
theorem md_set2 {i : Nat} (T : hw_T D A H0 ((md_W o am cm G S B).set 3 (am 2, .inl (cm 2, 32, .inl (upd (fun j => S j 2) i v)))) H locs) : hw_T D A H0 (md_W o am cm G (up2 S i 2 v) B) H locs := by
  have e : (md_W o am cm G S B).set 3 (am 2, .inl (cm 2, 32, .inl (upd (fun j => S j 2) i v))) = md_W o am cm G (up2 S i 2 v) B := by
    unfold md_W
    rw [up2_self, up2_ne (k := 2) (k' := 0) (by decide), up2_ne (k := 2) (k' := 1) (by decide), up2_ne (k := 2) (k' := 3) (by decide), up2_ne (k := 2) (k' := 4) (by decide), up2_ne (k := 2) (k' := 6) (by decide), up2_ne (k := 2) (k' := 7) (by decide), up2_ne (k := 2) (k' := 8) (by decide), up2_ne (k := 2) (k' := 9) (by decide), up2_ne (k := 2) (k' := 10) (by decide), up2_ne (k := 2) (k' := 11) (by decide), up2_ne (k := 2) (k' := 12) (by decide)]
    rfl
  rw [e] at T
  exact T
theorem md_set3 {i : Nat} (T : hw_T D A H0 ((md_W o am cm G S B).set 4 (am 3, .inl (cm 3, 32, .inl (upd (fun j => S j 3) i v)))) H locs) : hw_T D A H0 (md_W o am cm G (up2 S i 3 v) B) H locs := by
  have e : (md_W o am cm G S B).set 4 (am 3, .inl (cm 3, 32, .inl (upd (fun j => S j 3) i v))) = md_W o am cm G (up2 S i 3 v) B := by
    unfold md_W
    rw [up2_self, up2_ne (k := 3) (k' := 0) (by decide), up2_ne (k := 3) (k' := 1) (by decide), up2_ne (k := 3) (k' := 2) (by decide), up2_ne (k := 3) (k' := 4) (by decide), up2_ne (k := 3) (k' := 6) (by decide), up2_ne (k := 3) (k' := 7) (by decide), up2_ne (k := 3) (k' := 8) (by decide), up2_ne (k := 3) (k' := 9) (by decide), up2_ne (k := 3) (k' := 10) (by decide), up2_ne (k := 3) (k' := 11) (by decide), up2_ne (k := 3) (k' := 12) (by decide)]
    rfl
  rw [e] at T
  exact T
theorem md_set4 {i : Nat} (T : hw_T D A H0 ((md_W o am cm G S B).set 5 (am 4, .inl (cm 4, 32, .inl (upd (fun j => S j 4) i v)))) H locs) : hw_T D A H0 (md_W o am cm G (up2 S i 4 v) B) H locs := by
  have e : (md_W o am cm G S B).set 5 (am 4, .inl (cm 4, 32, .inl (upd (fun j => S j 4) i v))) = md_W o am cm G (up2 S i 4 v) B := by
    unfold md_W
    rw [up2_self, up2_ne (k := 4) (k' := 0) (by decide), up2_ne (k := 4) (k' := 1) (by decide), up2_ne (k := 4) (k' := 2) (by decide), up2_ne (k := 4) (k' := 3) (by decide), up2_ne (k := 4) (k' := 6) (by decide), up2_ne (k := 4) (k' := 7) (by decide), up2_ne (k := 4) (k' := 8) (by decide), up2_ne (k := 4) (k' := 9) (by decide), up2_ne (k := 4) (k' := 10) (by decide), up2_ne (k := 4) (k' := 11) (by decide), up2_ne (k := 4) (k' := 12) (by decide)]
    rfl
  rw [e] at T
  exact T
theorem md_set6 {i : Nat} (T : hw_T D A H0 ((md_W o am cm G S B).set 7 (am 6, .inl (cm 6, 32, .inl (upd (fun j => S j 6) i v)))) H locs) : hw_T D A H0 (md_W o am cm G (up2 S i 6 v) B) H locs := by
  have e : (md_W o am cm G S B).set 7 (am 6, .inl (cm 6, 32, .inl (upd (fun j => S j 6) i v))) = md_W o am cm G (up2 S i 6 v) B := by
    unfold md_W
    rw [up2_self, up2_ne (k := 6) (k' := 0) (by decide), up2_ne (k := 6) (k' := 1) (by decide), up2_ne (k := 6) (k' := 2) (by decide), up2_ne (k := 6) (k' := 3) (by decide), up2_ne (k := 6) (k' := 4) (by decide), up2_ne (k := 6) (k' := 7) (by decide), up2_ne (k := 6) (k' := 8) (by decide), up2_ne (k := 6) (k' := 9) (by decide), up2_ne (k := 6) (k' := 10) (by decide), up2_ne (k := 6) (k' := 11) (by decide), up2_ne (k := 6) (k' := 12) (by decide)]
    rfl
  rw [e] at T
  exact T
theorem md_set7 {i : Nat} (T : hw_T D A H0 ((md_W o am cm G S B).set 8 (am 7, .inl (cm 7, 32, .inl (upd (fun j => S j 7) i v)))) H locs) : hw_T D A H0 (md_W o am cm G (up2 S i 7 v) B) H locs := by
  have e : (md_W o am cm G S B).set 8 (am 7, .inl (cm 7, 32, .inl (upd (fun j => S j 7) i v))) = md_W o am cm G (up2 S i 7 v) B := by
    unfold md_W
    rw [up2_self, up2_ne (k := 7) (k' := 0) (by decide), up2_ne (k := 7) (k' := 1) (by decide), up2_ne (k := 7) (k' := 2) (by decide), up2_ne (k := 7) (k' := 3) (by decide), up2_ne (k := 7) (k' := 4) (by decide), up2_ne (k := 7) (k' := 6) (by decide), up2_ne (k := 7) (k' := 8) (by decide), up2_ne (k := 7) (k' := 9) (by decide), up2_ne (k := 7) (k' := 10) (by decide), up2_ne (k := 7) (k' := 11) (by decide), up2_ne (k := 7) (k' := 12) (by decide)]
    rfl
  rw [e] at T
  exact T
theorem md_set8 {i : Nat} (T : hw_T D A H0 ((md_W o am cm G S B).set 9 (am 8, .inl (cm 8, 32, .inl (upd (fun j => S j 8) i v)))) H locs) : hw_T D A H0 (md_W o am cm G (up2 S i 8 v) B) H locs := by
  have e : (md_W o am cm G S B).set 9 (am 8, .inl (cm 8, 32, .inl (upd (fun j => S j 8) i v))) = md_W o am cm G (up2 S i 8 v) B := by
    unfold md_W
    rw [up2_self, up2_ne (k := 8) (k' := 0) (by decide), up2_ne (k := 8) (k' := 1) (by decide), up2_ne (k := 8) (k' := 2) (by decide), up2_ne (k := 8) (k' := 3) (by decide), up2_ne (k := 8) (k' := 4) (by decide), up2_ne (k := 8) (k' := 6) (by decide), up2_ne (k := 8) (k' := 7) (by decide), up2_ne (k := 8) (k' := 9) (by decide), up2_ne (k := 8) (k' := 10) (by decide), up2_ne (k := 8) (k' := 11) (by decide), up2_ne (k := 8) (k' := 12) (by decide)]
    rfl
  rw [e] at T
  exact T
theorem md_set9 {i : Nat} (T : hw_T D A H0 ((md_W o am cm G S B).set 10 (am 9, .inl (cm 9, 32, .inl (upd (fun j => S j 9) i v)))) H locs) : hw_T D A H0 (md_W o am cm G (up2 S i 9 v) B) H locs := by
  have e : (md_W o am cm G S B).set 10 (am 9, .inl (cm 9, 32, .inl (upd (fun j => S j 9) i v))) = md_W o am cm G (up2 S i 9 v) B := by
    unfold md_W
    rw [up2_self, up2_ne (k := 9) (k' := 0) (by decide), up2_ne (k := 9) (k' := 1) (by decide), up2_ne (k := 9) (k' := 2) (by decide), up2_ne (k := 9) (k' := 3) (by decide), up2_ne (k := 9) (k' := 4) (by decide), up2_ne (k := 9) (k' := 6) (by decide), up2_ne (k := 9) (k' := 7) (by decide), up2_ne (k := 9) (k' := 8) (by decide), up2_ne (k := 9) (k' := 10) (by decide), up2_ne (k := 9) (k' := 11) (by decide), up2_ne (k := 9) (k' := 12) (by decide)]
    rfl
  rw [e] at T
  exact T
theorem md_set10 {i : Nat} (T : hw_T D A H0 ((md_W o am cm G S B).set 11 (am 10, .inl (cm 10, 32, .inl (upd (fun j => S j 10) i v)))) H locs) : hw_T D A H0 (md_W o am cm G (up2 S i 10 v) B) H locs := by
  have e : (md_W o am cm G S B).set 11 (am 10, .inl (cm 10, 32, .inl (upd (fun j => S j 10) i v))) = md_W o am cm G (up2 S i 10 v) B := by
    unfold md_W
    rw [up2_self, up2_ne (k := 10) (k' := 0) (by decide), up2_ne (k := 10) (k' := 1) (by decide), up2_ne (k := 10) (k' := 2) (by decide), up2_ne (k := 10) (k' := 3) (by decide), up2_ne (k := 10) (k' := 4) (by decide), up2_ne (k := 10) (k' := 6) (by decide), up2_ne (k := 10) (k' := 7) (by decide), up2_ne (k := 10) (k' := 8) (by decide), up2_ne (k := 10) (k' := 9) (by decide), up2_ne (k := 10) (k' := 11) (by decide), up2_ne (k := 10) (k' := 12) (by decide)]
    rfl
  rw [e] at T
  exact T
theorem md_set11 {i : Nat} (T : hw_T D A H0 ((md_W o am cm G S B).set 12 (am 11, .inl (cm 11, 32, .inl (upd (fun j => S j 11) i v)))) H locs) : hw_T D A H0 (md_W o am cm G (up2 S i 11 v) B) H locs := by
  have e : (md_W o am cm G S B).set 12 (am 11, .inl (cm 11, 32, .inl (upd (fun j => S j 11) i v))) = md_W o am cm G (up2 S i 11 v) B := by
    unfold md_W
    rw [up2_self, up2_ne (k := 11) (k' := 0) (by decide), up2_ne (k := 11) (k' := 1) (by decide), up2_ne (k := 11) (k' := 2) (by decide), up2_ne (k := 11) (k' := 3) (by decide), up2_ne (k := 11) (k' := 4) (by decide), up2_ne (k := 11) (k' := 6) (by decide), up2_ne (k := 11) (k' := 7) (by decide), up2_ne (k := 11) (k' := 8) (by decide), up2_ne (k := 11) (k' := 9) (by decide), up2_ne (k := 11) (k' := 10) (by decide), up2_ne (k := 11) (k' := 12) (by decide)]
    rfl
  rw [e] at T
  exact T
theorem md_set12 {i : Nat} (T : hw_T D A H0 ((md_W o am cm G S B).set 13 (am 12, .inl (cm 12, 32, .inl (upd (fun j => S j 12) i v)))) H locs) : hw_T D A H0 (md_W o am cm G (up2 S i 12 v) B) H locs := by
  have e : (md_W o am cm G S B).set 13 (am 12, .inl (cm 12, 32, .inl (upd (fun j => S j 12) i v))) = md_W o am cm G (up2 S i 12 v) B := by
    unfold md_W
    rw [up2_self, up2_ne (k := 12) (k' := 0) (by decide), up2_ne (k := 12) (k' := 1) (by decide), up2_ne (k := 12) (k' := 2) (by decide), up2_ne (k := 12) (k' := 3) (by decide), up2_ne (k := 12) (k' := 4) (by decide), up2_ne (k := 12) (k' := 6) (by decide), up2_ne (k := 12) (k' := 7) (by decide), up2_ne (k := 12) (k' := 8) (by decide), up2_ne (k := 12) (k' := 9) (by decide), up2_ne (k := 12) (k' := 10) (by decide), up2_ne (k := 12) (k' := 11) (by decide)]
    rfl
  rw [e] at T
  exact T
end
theorem mb_in {x y : Int32} (h1 : vp_in x 32) (h2 : vp_in y 32) : vp_in (32 * x + y) 1024 := by
  obtain ⟨a, ha, rfl⟩ := vp_in_of h1 (by decide)
  obtain ⟨b, hb, rfl⟩ := vp_in_of h2 (by decide)
  rw [show (32 : Int32) = nI 32 from rfl, pk_mul, nI_add]
  exact vp_in_nI (by omega) (by decide)
end
section
section
variable {l : Launch} {D : va_G} {o : Nat} {am : Nat → Nat} {cm : Nat → ClassId} {t0 : ClassId × FieldType} {G : Nat → Int32} {S : Nat → Nat → Int32} {B : Nat → Int32} {n : Nat}
/-- isSector, its picture -/
def sm_isSector (G : Nat → Int32) (x1 : Int32) : Int32 := if x1 < 0 then 0 else (if (G 0) ≤ x1 then 0 else 1)
theorem mx_n {G : Nat → Int32} {n : Nat} {x : Int32} (h : hg_n G n) (c : ¬ sm_isSector G x = 0) : ∃ j : Nat, j < n ∧ x = nI j := sx_n h c
theorem mx_in {G : Nat → Int32} {n : Nat} {x : Int32} (h : hg_n G n) (c : ¬ sm_isSector G x = 0) : vp_in x 32 := sx_in h c
set_option maxHeartbeats 4000000 in
set_option maxRecDepth 100000 in
theorem c_M_isSector {x1 : Int32}  : MI l D (t0 :: md_tys cm) yX3_isSector wsX3_isSector { frames := 0, cells := 0, slots := 0, locals := 0 } [.ref o, .int x1] (md_W o am cm G S B) (sm_isSector G x1) (md_W o am cm G S B) := by
  refine MI.start (cc := cX3_isSector) (maxL := 2) (by decide) rfl (Nat.le_of_ble_eq_true rfl) (fun p e s m args below meth c A ls C T hl => ?_)
  have hx := C.1.1
  have hb := C.1.2.1
  have hml := C.1.2.2.1
  have hown : s.vm.findClass RX3 = some m.cls := C.1.2.2.2.1
  have hts := C.1.2.2.2.2
  have hK := C.2.2.2.1
  have hinM : ∀ w ∈ wsX30, w ∈ wsX3_isSector := fun w h => List.mem_cons_of_mem _ (inX3 w h)
  have hl : lv_has ls 2 [(0, .ref o), (1, .int x1)] := hl
  refine lv_iload_n hx hb dX3_isSector_0 rfl (lv_at hl 1 rfl) ?_
  refine lv_if_lt (tgt := 16) hx hb dX3_isSector_1 (by decide) (fun c_1 => ?_) (fun c_1 => ?_)
  · skip
    refine lv_iconst (v := 0) hx hb dX3_isSector_16 (by decide) ?_
    have e9 : sm_isSector G x1 = 0 := by unfold sm_isSector; simp only [if_pos c_1]
    exact hw_iret C T (by decide) e9.symm rfl dX3_isSector_17
  · skip
    refine lv_iload_n hx hb dX3_isSector_4 rfl (lv_at hl 1 rfl) ?_
    refine lv_aload_n hx hb dX3_isSector_5 rfl (lv_at hl 0 rfl) ?_
    refine va_get (D := D) (ci := 2) (v := .int (G 0)) (C := RX3) (T := TX3) (N := 19) hx hb hts hinM hown hK T.1 0 rfl rfl 1 (by decide) (hts _ (List.mem_cons_of_mem _ k3_f57)) (fun _ h9 => h9) rfl dX3_isSector_6 ?_
    refine lv_icmp_ge (tgt := 16) hx hb dX3_isSector_9 (by decide) (fun c_9 => ?_) (fun c_9 => ?_)
    · skip
      refine lv_iconst (v := 0) hx hb dX3_isSector_16 (by decide) ?_
      have e9 : sm_isSector G x1 = 0 := by unfold sm_isSector; simp only [if_neg c_1, if_pos c_9]
      exact hw_iret C T (by decide) e9.symm rfl dX3_isSector_17
    · skip
      refine lv_iconst (v := 1) hx hb dX3_isSector_12 (by decide) ?_
      refine lv_goto (tgt := 17) hx hb dX3_isSector_13 (by decide) ?_
      have e9 : sm_isSector G x1 = 1 := by unfold sm_isSector; simp only [if_neg c_1, if_neg c_9]
      exact hw_iret C T (by decide) e9.symm rfl dX3_isSector_17
/-- lowFloor: its loop, by what is left to do -/
def sm_lowFloor_loop (S : Nat → Nat → Int32) (B : Nat → Int32) (x1 : Int32) : Nat → Nat → Int32 → Int32
  | 0, _, x => x
  | k + 1, i, x => if (B (((32 * x1) + (nI i)).toNatClampNeg)) = 0 then (sm_lowFloor_loop S B x1 k (i + 1) x) else (if x ≤ (S i 6) then (sm_lowFloor_loop S B x1 k (i + 1) x) else (sm_lowFloor_loop S B x1 k (i + 1) (S i 6)))
set_option maxHeartbeats 4000000 in
set_option maxRecDepth 100000 in
theorem lp_m_lowFloor {p : Program} {e : Env} {s : State} {m : MethodId} {args : Array Value} {below : List Frame} {meth : Method} {c : Code} {A : Nat → Prop} {x1 : Int32} (h1 : vp_in x1 32) (hG : hg_n G n) (C : hw_C p s m args meth c cX3_lowFloor (some .int) 4 wsX3_lowFloor yX3_lowFloor.cls D (t0 :: md_tys cm) A) :
    ∀ (k i : Nat) (x : Int32), i + k = n → ∀ (ls : Array Slot) (H : Heap) (locs : List Loc), hw_T D A s.heap (md_W o am cm G S B) H locs → lv_has ls 4 [(0, .ref o), (1, .int x1), (2, .int x), (3, .int (nI i))] → W p l e { frames := 0, cells := 0, slots := 0, locals := 0 } s m args below meth c H locs 0 0 (MQ below (va_Qi (fun (r' : Int32) (_ : Unit) => r' = sm_lowFloor_loop S B x1 k i x) (fun _ t => va_P D vwCl (md_W o am cm G S B) t.heap) A) args s 0 0 A) (F0 m 9 ls []) := by
  have hx := C.1.1
  have hb := C.1.2.1
  have hml := C.1.2.2.1
  have hown : s.vm.findClass RX3 = some m.cls := C.1.2.2.2.1
  have hts := C.1.2.2.2.2
  have hK := C.2.2.2.1
  have hinM : ∀ w ∈ wsX30, w ∈ wsX3_lowFloor := fun w h => List.mem_cons_of_mem _ (inX3 w h)
  have hn32 := hG.1
  intro k
  induction k with
  | zero =>
    intro i x hik ls H locs T hl
    refine lv_iload_n hx hb dX3_lowFloor_9 rfl (lv_at hl 3 rfl) ?_
    refine lv_aload_n hx hb dX3_lowFloor_10 rfl (lv_at hl 0 rfl) ?_
    refine va_get (D := D) (ci := 2) (v := .int (G 0)) (C := RX3) (T := TX3) (N := 19) hx hb hts hinM hown hK T.1 0 rfl rfl 1 (by decide) (hts _ (List.mem_cons_of_mem _ k3_f57)) (fun _ h9 => h9) rfl dX3_lowFloor_11 ?_
    refine lv_icmp_ge (tgt := 58) hx hb dX3_lowFloor_14 (by decide) (fun c_14 => ?_) (fun c_14 => absurd (show G 0 ≤ nI i by rw [hG.2]; exact nI_le (show n ≤ i by omega) (by omega)) c_14)
    refine lv_iload_n hx hb dX3_lowFloor_58 rfl (lv_at hl 2 rfl) ?_
    have e9 : sm_lowFloor_loop S B x1 0 i x = x := by rw [sm_lowFloor_loop]
    exact hw_iret C T rfl e9.symm rfl dX3_lowFloor_59
  | succ k ih =>
    intro i x hik ls H locs T hl
    refine lv_iload_n hx hb dX3_lowFloor_9 rfl (lv_at hl 3 rfl) ?_
    refine lv_aload_n hx hb dX3_lowFloor_10 rfl (lv_at hl 0 rfl) ?_
    refine va_get (D := D) (ci := 2) (v := .int (G 0)) (C := RX3) (T := TX3) (N := 19) hx hb hts hinM hown hK T.1 0 rfl rfl 1 (by decide) (hts _ (List.mem_cons_of_mem _ k3_f57)) (fun _ h9 => h9) rfl dX3_lowFloor_11 ?_
    refine lv_icmp_ge (tgt := 58) hx hb dX3_lowFloor_14 (by decide) (fun c_14 => absurd c_14 (show ¬ G 0 ≤ nI i by rw [hG.2]; exact nI_ge (show i < n by omega) (by omega))) (fun c_14 => ?_)
    refine lv_aload_n hx hb dX3_lowFloor_17 rfl (lv_at hl 0 rfl) ?_
    refine va_get (D := D) (ci := 2) (v := .ref (am 5)) (C := RX3) (T := TX3) (N := 19) hx hb hts hinM hown hK T.1 0 rfl rfl 7 (by decide) (hts _ (List.mem_cons_of_mem _ k3_f25)) (fun _ h9 => h9) rfl dX3_lowFloor_18 ?_
    refine lv_bipush (v := 32) hx hb dX3_lowFloor_21 (by decide) ?_
    refine lv_iload_n hx hb dX3_lowFloor_23 rfl (lv_at hl 1 rfl) ?_
    refine lv_imul hx hb dX3_lowFloor_24 ?_
    refine lv_iload_n hx hb dX3_lowFloor_25 rfl (lv_at hl 3 rfl) ?_
    refine lv_iadd hx hb dX3_lowFloor_26 ?_
    have h_27 : vp_in ((32 * x1) + (nI i)) 1024 := (mb_in h1 (vp_in_nI (show i < 32 by omega) (by decide)))
    refine va_zald hx hb hK T.1 6 6 rfl rfl h_27 dX3_lowFloor_27 ?_
    refine W.eq (g2 := F0 m 28 ls [.int (B (((32 * x1) + (nI i)).toNatClampNeg))]) rfl ?_
    refine lv_if_eq (tgt := 50) hx hb dX3_lowFloor_28 (by decide) (fun c_28 => ?_) (fun c_28 => ?_)
    · skip
      refine lv_iload_n hx hb dX3_lowFloor_50 rfl (lv_at hl 2 rfl) ?_
      refine lv_istore_n (lv' := [(2, .int x), (0, .ref o), (1, .int x1), (3, .int (nI i))]) hx hb dX3_lowFloor_51 rfl hl (by decide) rfl (fun ls hl => ?_)
      refine lv_iinc (v := nI (i + 1)) (lv' := [(3, .int (nI (i + 1))), (2, .int x), (0, .ref o), (1, .int x1)]) hx hb dX3_lowFloor_52 hl (k := 3) rfl (nI_1 i) (by decide) rfl (fun ls hl => ?_)
      refine lv_goto (tgt := 9) hx hb dX3_lowFloor_55 (by decide) ?_
      rw [show sm_lowFloor_loop S B x1 (k + 1) i x = sm_lowFloor_loop S B x1 k (i + 1) x from by rw [sm_lowFloor_loop]; simp only [if_pos c_28]]
      exact ih (i + 1) _ (by omega) _ _ _ T (lv_sub hl [2, 3, 1, 0] rfl)
    · skip
      refine lv_aload_n hx hb dX3_lowFloor_31 rfl (lv_at hl 0 rfl) ?_
      refine va_get (D := D) (ci := 2) (v := .ref (am 6)) (C := RX3) (T := TX3) (N := 19) hx hb hts hinM hown hK T.1 0 rfl rfl 9 (by decide) (hts _ (List.mem_cons_of_mem _ k3_f29)) (fun _ h9 => h9) rfl dX3_lowFloor_32 ?_
      refine lv_iload_n hx hb dX3_lowFloor_35 rfl (lv_at hl 3 rfl) ?_
      have h_36 : vp_in (nI i) 32 := vp_in_nI (show i < 32 by omega) (by decide)
      refine va_iald hx hb hK T.1 7 7 rfl rfl h_36 dX3_lowFloor_36 ?_
      refine W.eq (g2 := F0 m 37 ls [.int (S i 6)]) (by rw [nI_clamp (show i < 2 ^ 31 by omega)] <;> rfl) ?_
      refine lv_iload_n hx hb dX3_lowFloor_37 rfl (lv_at hl 2 rfl) ?_
      refine lv_icmp_ge (tgt := 50) hx hb dX3_lowFloor_38 (by decide) (fun c_38 => ?_) (fun c_38 => ?_)
      · skip
        refine lv_iload_n hx hb dX3_lowFloor_50 rfl (lv_at hl 2 rfl) ?_
        refine lv_istore_n (lv' := [(2, .int x), (0, .ref o), (1, .int x1), (3, .int (nI i))]) hx hb dX3_lowFloor_51 rfl hl (by decide) rfl (fun ls hl => ?_)
        refine lv_iinc (v := nI (i + 1)) (lv' := [(3, .int (nI (i + 1))), (2, .int x), (0, .ref o), (1, .int x1)]) hx hb dX3_lowFloor_52 hl (k := 3) rfl (nI_1 i) (by decide) rfl (fun ls hl => ?_)
        refine lv_goto (tgt := 9) hx hb dX3_lowFloor_55 (by decide) ?_
        rw [show sm_lowFloor_loop S B x1 (k + 1) i x = sm_lowFloor_loop S B x1 k (i + 1) x from by rw [sm_lowFloor_loop]; simp only [if_neg c_28, if_pos c_38]]
        exact ih (i + 1) _ (by omega) _ _ _ T (lv_sub hl [2, 3, 1, 0] rfl)
      · skip
        refine lv_aload_n hx hb dX3_lowFloor_41 rfl (lv_at hl 0 rfl) ?_
        refine va_get (D := D) (ci := 2) (v := .ref (am 6)) (C := RX3) (T := TX3) (N := 19) hx hb hts hinM hown hK T.1 0 rfl rfl 9 (by decide) (hts _ (List.mem_cons_of_mem _ k3_f29)) (fun _ h9 => h9) rfl dX3_lowFloor_42 ?_
        refine lv_iload_n hx hb dX3_lowFloor_45 rfl (lv_at hl 3 rfl) ?_
        have h_46 : vp_in (nI i) 32 := vp_in_nI (show i < 32 by omega) (by decide)
        refine va_iald hx hb hK T.1 7 7 rfl rfl h_46 dX3_lowFloor_46 ?_
        refine W.eq (g2 := F0 m 47 ls [.int (S i 6)]) (by rw [nI_clamp (show i < 2 ^ 31 by omega)] <;> rfl) ?_
        refine lv_goto (tgt := 51) hx hb dX3_lowFloor_47 (by decide) ?_
        refine lv_istore_n (lv' := [(2, .int (S i 6)), (0, .ref o), (1, .int x1), (3, .int (nI i))]) hx hb dX3_lowFloor_51 rfl hl (by decide) rfl (fun ls hl => ?_)
        refine lv_iinc (v := nI (i + 1)) (lv' := [(3, .int (nI (i + 1))), (2, .int (S i 6)), (0, .ref o), (1, .int x1)]) hx hb dX3_lowFloor_52 hl (k := 3) rfl (nI_1 i) (by decide) rfl (fun ls hl => ?_)
        refine lv_goto (tgt := 9) hx hb dX3_lowFloor_55 (by decide) ?_
        rw [show sm_lowFloor_loop S B x1 (k + 1) i x = sm_lowFloor_loop S B x1 k (i + 1) (S i 6) from by rw [sm_lowFloor_loop]; simp only [if_neg c_28, if_neg c_38]]
        exact ih (i + 1) _ (by omega) _ _ _ T (lv_sub hl [2, 3, 1, 0] rfl)
/-- lowFloor, its picture -/
def sm_lowFloor (S : Nat → Nat → Int32) (B : Nat → Int32) (n : Nat) (x1 : Int32) : Int32 := sm_lowFloor_loop S B x1 n 0 (S x1.toNatClampNeg 6)
set_option maxHeartbeats 4000000 in
set_option maxRecDepth 100000 in
theorem c_M_lowFloor {x1 : Int32} (h1 : vp_in x1 32) (hG : hg_n G n) : MI l D (t0 :: md_tys cm) yX3_lowFloor wsX3_lowFloor { frames := 0, cells := 0, slots := 0, locals := 0 } [.ref o, .int x1] (md_W o am cm G S B) (sm_lowFloor S B n x1) (md_W o am cm G S B) := by
  refine MI.start (cc := cX3_lowFloor) (maxL := 4) (by decide) rfl (Nat.le_of_ble_eq_true rfl) (fun p e s m args below meth c A ls C T hl => ?_)
  have hx := C.1.1
  have hb := C.1.2.1
  have hml := C.1.2.2.1
  have hown : s.vm.findClass RX3 = some m.cls := C.1.2.2.2.1
  have hts := C.1.2.2.2.2
  have hK := C.2.2.2.1
  have hinM : ∀ w ∈ wsX30, w ∈ wsX3_lowFloor := fun w h => List.mem_cons_of_mem _ (inX3 w h)
  have hn32 := hG.1
  have hl : lv_has ls 4 [(0, .ref o), (1, .int x1)] := hl
  refine lv_aload_n hx hb dX3_lowFloor_0 rfl (lv_at hl 0 rfl) ?_
  refine va_get (D := D) (ci := 2) (v := .ref (am 6)) (C := RX3) (T := TX3) (N := 19) hx hb hts hinM hown hK T.1 0 rfl rfl 9 (by decide) (hts _ (List.mem_cons_of_mem _ k3_f29)) (fun _ h9 => h9) rfl dX3_lowFloor_1 ?_
  refine lv_iload_n hx hb dX3_lowFloor_4 rfl (lv_at hl 1 rfl) ?_
  have h_5 : vp_in x1 32 := h1
  refine va_iald hx hb hK T.1 7 7 rfl rfl h_5 dX3_lowFloor_5 ?_
  refine W.eq (g2 := F0 m 6 ls [.int (S x1.toNatClampNeg 6)]) rfl ?_
  refine lv_istore_n (lv' := [(2, .int (S x1.toNatClampNeg 6)), (0, .ref o), (1, .int x1)]) hx hb dX3_lowFloor_6 rfl hl (by decide) rfl (fun ls hl => ?_)
  refine lv_iconst (v := 0) hx hb dX3_lowFloor_7 (by decide) ?_
  refine lv_istore_n (lv' := [(3, .int 0), (2, .int (S x1.toNatClampNeg 6)), (0, .ref o), (1, .int x1)]) hx hb dX3_lowFloor_8 rfl hl (by decide) rfl (fun ls hl => ?_)
  rw [show sm_lowFloor S B n x1 = sm_lowFloor_loop S B x1 n 0 (S x1.toNatClampNeg 6) from by rfl]
  exact lp_m_lowFloor h1 hG C n 0 _ (by omega) _ _ _ T (lv_sub hl [2, 3, 1, 0] rfl)
/-- highFloor: its loop, by what is left to do -/
def sm_highFloor_loop (S : Nat → Nat → Int32) (B : Nat → Int32) (x1 : Int32) : Nat → Nat → Int32 → Int32
  | 0, _, x => x
  | k + 1, i, x => if (B (((32 * x1) + (nI i)).toNatClampNeg)) = 0 then (sm_highFloor_loop S B x1 k (i + 1) x) else (if (S i 6) ≤ x then (sm_highFloor_loop S B x1 k (i + 1) x) else (sm_highFloor_loop S B x1 k (i + 1) (S i 6)))
set_option maxHeartbeats 4000000 in
set_option maxRecDepth 100000 in
theorem lp_m_highFloor {p : Program} {e : Env} {s : State} {m : MethodId} {args : Array Value} {below : List Frame} {meth : Method} {c : Code} {A : Nat → Prop} {x1 : Int32} (h1 : vp_in x1 32) (hG : hg_n G n) (C : hw_C p s m args meth c cX3_highFloor (some .int) 4 wsX3_highFloor yX3_highFloor.cls D (t0 :: md_tys cm) A) :
    ∀ (k i : Nat) (x : Int32), i + k = n → ∀ (ls : Array Slot) (H : Heap) (locs : List Loc), hw_T D A s.heap (md_W o am cm G S B) H locs → lv_has ls 4 [(0, .ref o), (1, .int x1), (2, .int x), (3, .int (nI i))] → W p l e { frames := 0, cells := 0, slots := 0, locals := 0 } s m args below meth c H locs 0 0 (MQ below (va_Qi (fun (r' : Int32) (_ : Unit) => r' = sm_highFloor_loop S B x1 k i x) (fun _ t => va_P D vwCl (md_W o am cm G S B) t.heap) A) args s 0 0 A) (F0 m 9 ls []) := by
  have hx := C.1.1
  have hb := C.1.2.1
  have hml := C.1.2.2.1
  have hown : s.vm.findClass RX3 = some m.cls := C.1.2.2.2.1
  have hts := C.1.2.2.2.2
  have hK := C.2.2.2.1
  have hinM : ∀ w ∈ wsX30, w ∈ wsX3_highFloor := fun w h => List.mem_cons_of_mem _ (inX3 w h)
  have hn32 := hG.1
  intro k
  induction k with
  | zero =>
    intro i x hik ls H locs T hl
    refine lv_iload_n hx hb dX3_highFloor_9 rfl (lv_at hl 3 rfl) ?_
    refine lv_aload_n hx hb dX3_highFloor_10 rfl (lv_at hl 0 rfl) ?_
    refine va_get (D := D) (ci := 2) (v := .int (G 0)) (C := RX3) (T := TX3) (N := 19) hx hb hts hinM hown hK T.1 0 rfl rfl 1 (by decide) (hts _ (List.mem_cons_of_mem _ k3_f57)) (fun _ h9 => h9) rfl dX3_highFloor_11 ?_
    refine lv_icmp_ge (tgt := 58) hx hb dX3_highFloor_14 (by decide) (fun c_14 => ?_) (fun c_14 => absurd (show G 0 ≤ nI i by rw [hG.2]; exact nI_le (show n ≤ i by omega) (by omega)) c_14)
    refine lv_iload_n hx hb dX3_highFloor_58 rfl (lv_at hl 2 rfl) ?_
    have e9 : sm_highFloor_loop S B x1 0 i x = x := by rw [sm_highFloor_loop]
    exact hw_iret C T rfl e9.symm rfl dX3_highFloor_59
  | succ k ih =>
    intro i x hik ls H locs T hl
    refine lv_iload_n hx hb dX3_highFloor_9 rfl (lv_at hl 3 rfl) ?_
    refine lv_aload_n hx hb dX3_highFloor_10 rfl (lv_at hl 0 rfl) ?_
    refine va_get (D := D) (ci := 2) (v := .int (G 0)) (C := RX3) (T := TX3) (N := 19) hx hb hts hinM hown hK T.1 0 rfl rfl 1 (by decide) (hts _ (List.mem_cons_of_mem _ k3_f57)) (fun _ h9 => h9) rfl dX3_highFloor_11 ?_
    refine lv_icmp_ge (tgt := 58) hx hb dX3_highFloor_14 (by decide) (fun c_14 => absurd c_14 (show ¬ G 0 ≤ nI i by rw [hG.2]; exact nI_ge (show i < n by omega) (by omega))) (fun c_14 => ?_)
    refine lv_aload_n hx hb dX3_highFloor_17 rfl (lv_at hl 0 rfl) ?_
    refine va_get (D := D) (ci := 2) (v := .ref (am 5)) (C := RX3) (T := TX3) (N := 19) hx hb hts hinM hown hK T.1 0 rfl rfl 7 (by decide) (hts _ (List.mem_cons_of_mem _ k3_f25)) (fun _ h9 => h9) rfl dX3_highFloor_18 ?_
    refine lv_bipush (v := 32) hx hb dX3_highFloor_21 (by decide) ?_
    refine lv_iload_n hx hb dX3_highFloor_23 rfl (lv_at hl 1 rfl) ?_
    refine lv_imul hx hb dX3_highFloor_24 ?_
    refine lv_iload_n hx hb dX3_highFloor_25 rfl (lv_at hl 3 rfl) ?_
    refine lv_iadd hx hb dX3_highFloor_26 ?_
    have h_27 : vp_in ((32 * x1) + (nI i)) 1024 := (mb_in h1 (vp_in_nI (show i < 32 by omega) (by decide)))
    refine va_zald hx hb hK T.1 6 6 rfl rfl h_27 dX3_highFloor_27 ?_
    refine W.eq (g2 := F0 m 28 ls [.int (B (((32 * x1) + (nI i)).toNatClampNeg))]) rfl ?_
    refine lv_if_eq (tgt := 50) hx hb dX3_highFloor_28 (by decide) (fun c_28 => ?_) (fun c_28 => ?_)
    · skip
      refine lv_iload_n hx hb dX3_highFloor_50 rfl (lv_at hl 2 rfl) ?_
      refine lv_istore_n (lv' := [(2, .int x), (0, .ref o), (1, .int x1), (3, .int (nI i))]) hx hb dX3_highFloor_51 rfl hl (by decide) rfl (fun ls hl => ?_)
      refine lv_iinc (v := nI (i + 1)) (lv' := [(3, .int (nI (i + 1))), (2, .int x), (0, .ref o), (1, .int x1)]) hx hb dX3_highFloor_52 hl (k := 3) rfl (nI_1 i) (by decide) rfl (fun ls hl => ?_)
      refine lv_goto (tgt := 9) hx hb dX3_highFloor_55 (by decide) ?_
      rw [show sm_highFloor_loop S B x1 (k + 1) i x = sm_highFloor_loop S B x1 k (i + 1) x from by rw [sm_highFloor_loop]; simp only [if_pos c_28]]
      exact ih (i + 1) _ (by omega) _ _ _ T (lv_sub hl [2, 3, 1, 0] rfl)
    · skip
      refine lv_aload_n hx hb dX3_highFloor_31 rfl (lv_at hl 0 rfl) ?_
      refine va_get (D := D) (ci := 2) (v := .ref (am 6)) (C := RX3) (T := TX3) (N := 19) hx hb hts hinM hown hK T.1 0 rfl rfl 9 (by decide) (hts _ (List.mem_cons_of_mem _ k3_f29)) (fun _ h9 => h9) rfl dX3_highFloor_32 ?_
      refine lv_iload_n hx hb dX3_highFloor_35 rfl (lv_at hl 3 rfl) ?_
      have h_36 : vp_in (nI i) 32 := vp_in_nI (show i < 32 by omega) (by decide)
      refine va_iald hx hb hK T.1 7 7 rfl rfl h_36 dX3_highFloor_36 ?_
      refine W.eq (g2 := F0 m 37 ls [.int (S i 6)]) (by rw [nI_clamp (show i < 2 ^ 31 by omega)] <;> rfl) ?_
      refine lv_iload_n hx hb dX3_highFloor_37 rfl (lv_at hl 2 rfl) ?_
      refine lv_icmp_le (tgt := 50) hx hb dX3_highFloor_38 (by decide) (fun c_38 => ?_) (fun c_38 => ?_)
      · skip
        refine lv_iload_n hx hb dX3_highFloor_50 rfl (lv_at hl 2 rfl) ?_
        refine lv_istore_n (lv' := [(2, .int x), (0, .ref o), (1, .int x1), (3, .int (nI i))]) hx hb dX3_highFloor_51 rfl hl (by decide) rfl (fun ls hl => ?_)
        refine lv_iinc (v := nI (i + 1)) (lv' := [(3, .int (nI (i + 1))), (2, .int x), (0, .ref o), (1, .int x1)]) hx hb dX3_highFloor_52 hl (k := 3) rfl (nI_1 i) (by decide) rfl (fun ls hl => ?_)
        refine lv_goto (tgt := 9) hx hb dX3_highFloor_55 (by decide) ?_
        rw [show sm_highFloor_loop S B x1 (k + 1) i x = sm_highFloor_loop S B x1 k (i + 1) x from by rw [sm_highFloor_loop]; simp only [if_neg c_28, if_pos c_38]]
        exact ih (i + 1) _ (by omega) _ _ _ T (lv_sub hl [2, 3, 1, 0] rfl)
      · skip
        refine lv_aload_n hx hb dX3_highFloor_41 rfl (lv_at hl 0 rfl) ?_
        refine va_get (D := D) (ci := 2) (v := .ref (am 6)) (C := RX3) (T := TX3) (N := 19) hx hb hts hinM hown hK T.1 0 rfl rfl 9 (by decide) (hts _ (List.mem_cons_of_mem _ k3_f29)) (fun _ h9 => h9) rfl dX3_highFloor_42 ?_
        refine lv_iload_n hx hb dX3_highFloor_45 rfl (lv_at hl 3 rfl) ?_
        have h_46 : vp_in (nI i) 32 := vp_in_nI (show i < 32 by omega) (by decide)
        refine va_iald hx hb hK T.1 7 7 rfl rfl h_46 dX3_highFloor_46 ?_
        refine W.eq (g2 := F0 m 47 ls [.int (S i 6)]) (by rw [nI_clamp (show i < 2 ^ 31 by omega)] <;> rfl) ?_
        refine lv_goto (tgt := 51) hx hb dX3_highFloor_47 (by decide) ?_
        refine lv_istore_n (lv' := [(2, .int (S i 6)), (0, .ref o), (1, .int x1), (3, .int (nI i))]) hx hb dX3_highFloor_51 rfl hl (by decide) rfl (fun ls hl => ?_)
        refine lv_iinc (v := nI (i + 1)) (lv' := [(3, .int (nI (i + 1))), (2, .int (S i 6)), (0, .ref o), (1, .int x1)]) hx hb dX3_highFloor_52 hl (k := 3) rfl (nI_1 i) (by decide) rfl (fun ls hl => ?_)
        refine lv_goto (tgt := 9) hx hb dX3_highFloor_55 (by decide) ?_
        rw [show sm_highFloor_loop S B x1 (k + 1) i x = sm_highFloor_loop S B x1 k (i + 1) (S i 6) from by rw [sm_highFloor_loop]; simp only [if_neg c_28, if_neg c_38]]
        exact ih (i + 1) _ (by omega) _ _ _ T (lv_sub hl [2, 3, 1, 0] rfl)
/-- highFloor, its picture -/
def sm_highFloor (S : Nat → Nat → Int32) (B : Nat → Int32) (n : Nat) (x1 : Int32) : Int32 := sm_highFloor_loop S B x1 n 0 (S x1.toNatClampNeg 6)
set_option maxHeartbeats 4000000 in
set_option maxRecDepth 100000 in
theorem c_M_highFloor {x1 : Int32} (h1 : vp_in x1 32) (hG : hg_n G n) : MI l D (t0 :: md_tys cm) yX3_highFloor wsX3_highFloor { frames := 0, cells := 0, slots := 0, locals := 0 } [.ref o, .int x1] (md_W o am cm G S B) (sm_highFloor S B n x1) (md_W o am cm G S B) := by
  refine MI.start (cc := cX3_highFloor) (maxL := 4) (by decide) rfl (Nat.le_of_ble_eq_true rfl) (fun p e s m args below meth c A ls C T hl => ?_)
  have hx := C.1.1
  have hb := C.1.2.1
  have hml := C.1.2.2.1
  have hown : s.vm.findClass RX3 = some m.cls := C.1.2.2.2.1
  have hts := C.1.2.2.2.2
  have hK := C.2.2.2.1
  have hinM : ∀ w ∈ wsX30, w ∈ wsX3_highFloor := fun w h => List.mem_cons_of_mem _ (inX3 w h)
  have hn32 := hG.1
  have hl : lv_has ls 4 [(0, .ref o), (1, .int x1)] := hl
  refine lv_aload_n hx hb dX3_highFloor_0 rfl (lv_at hl 0 rfl) ?_
  refine va_get (D := D) (ci := 2) (v := .ref (am 6)) (C := RX3) (T := TX3) (N := 19) hx hb hts hinM hown hK T.1 0 rfl rfl 9 (by decide) (hts _ (List.mem_cons_of_mem _ k3_f29)) (fun _ h9 => h9) rfl dX3_highFloor_1 ?_
  refine lv_iload_n hx hb dX3_highFloor_4 rfl (lv_at hl 1 rfl) ?_
  have h_5 : vp_in x1 32 := h1
  refine va_iald hx hb hK T.1 7 7 rfl rfl h_5 dX3_highFloor_5 ?_
  refine W.eq (g2 := F0 m 6 ls [.int (S x1.toNatClampNeg 6)]) rfl ?_
  refine lv_istore_n (lv' := [(2, .int (S x1.toNatClampNeg 6)), (0, .ref o), (1, .int x1)]) hx hb dX3_highFloor_6 rfl hl (by decide) rfl (fun ls hl => ?_)
  refine lv_iconst (v := 0) hx hb dX3_highFloor_7 (by decide) ?_
  refine lv_istore_n (lv' := [(3, .int 0), (2, .int (S x1.toNatClampNeg 6)), (0, .ref o), (1, .int x1)]) hx hb dX3_highFloor_8 rfl hl (by decide) rfl (fun ls hl => ?_)
  rw [show sm_highFloor S B n x1 = sm_highFloor_loop S B x1 n 0 (S x1.toNatClampNeg 6) from by rfl]
  exact lp_m_highFloor h1 hG C n 0 _ (by omega) _ _ _ T (lv_sub hl [2, 3, 1, 0] rfl)
/-- lowCeiling: its loop, by what is left to do -/
def sm_lowCeiling_loop (S : Nat → Nat → Int32) (B : Nat → Int32) (x1 : Int32) : Nat → Nat → Int32 → Int32
  | 0, _, x => if x = 100000 then (S x1.toNatClampNeg 7) else x
  | k + 1, i, x => if (B (((32 * x1) + (nI i)).toNatClampNeg)) = 0 then (sm_lowCeiling_loop S B x1 k (i + 1) x) else (if x ≤ (S i 7) then (sm_lowCeiling_loop S B x1 k (i + 1) x) else (sm_lowCeiling_loop S B x1 k (i + 1) (S i 7)))
set_option maxHeartbeats 4000000 in
set_option maxRecDepth 100000 in
theorem lp_m_lowCeiling {p : Program} {e : Env} {s : State} {m : MethodId} {args : Array Value} {below : List Frame} {meth : Method} {c : Code} {A : Nat → Prop} {x1 : Int32} (h1 : vp_in x1 32) (hG : hg_n G n) (C : hw_C p s m args meth c cX3_lowCeiling (some .int) 4 wsX3_lowCeiling yX3_lowCeiling.cls D (t0 :: md_tys cm) A) :
    ∀ (k i : Nat) (x : Int32), i + k = n → ∀ (ls : Array Slot) (H : Heap) (locs : List Loc), hw_T D A s.heap (md_W o am cm G S B) H locs → lv_has ls 4 [(0, .ref o), (1, .int x1), (2, .int x), (3, .int (nI i))] → W p l e { frames := 0, cells := 0, slots := 0, locals := 0 } s m args below meth c H locs 0 0 (MQ below (va_Qi (fun (r' : Int32) (_ : Unit) => r' = sm_lowCeiling_loop S B x1 k i x) (fun _ t => va_P D vwCl (md_W o am cm G S B) t.heap) A) args s 0 0 A) (F0 m 5 ls []) := by
  have hx := C.1.1
  have hb := C.1.2.1
  have hml := C.1.2.2.1
  have hown : s.vm.findClass RX3 = some m.cls := C.1.2.2.2.1
  have hts := C.1.2.2.2.2
  have hK := C.2.2.2.1
  have hinM : ∀ w ∈ wsX30, w ∈ wsX3_lowCeiling := fun w h => List.mem_cons_of_mem _ (inX3 w h)
  have hn32 := hG.1
  intro k
  induction k with
  | zero =>
    intro i x hik ls H locs T hl
    refine lv_iload_n hx hb dX3_lowCeiling_5 rfl (lv_at hl 3 rfl) ?_
    refine lv_aload_n hx hb dX3_lowCeiling_6 rfl (lv_at hl 0 rfl) ?_
    refine va_get (D := D) (ci := 2) (v := .int (G 0)) (C := RX3) (T := TX3) (N := 19) hx hb hts hinM hown hK T.1 0 rfl rfl 1 (by decide) (hts _ (List.mem_cons_of_mem _ k3_f57)) (fun _ h9 => h9) rfl dX3_lowCeiling_7 ?_
    refine lv_icmp_ge (tgt := 54) hx hb dX3_lowCeiling_10 (by decide) (fun c_10 => ?_) (fun c_10 => absurd (show G 0 ≤ nI i by rw [hG.2]; exact nI_le (show n ≤ i by omega) (by omega)) c_10)
    refine lv_iload_n hx hb dX3_lowCeiling_54 rfl (lv_at hl 2 rfl) ?_
    refine lv_ldc (v := 100000) hx hb hown (hts (.constant RX3 76 100000) (List.mem_cons_of_mem _ k3_k76)) dX3_lowCeiling_55 ?_
    refine lv_icmp_ne (tgt := 69) hx hb dX3_lowCeiling_57 (by decide) (fun c_57 => ?_) (fun c_57 => ?_)
    · skip
      refine lv_iload_n hx hb dX3_lowCeiling_69 rfl (lv_at hl 2 rfl) ?_
      have e9 : sm_lowCeiling_loop S B x1 0 i x = x := by rw [sm_lowCeiling_loop]; simp only [if_neg c_57]
      exact hw_iret C T rfl e9.symm rfl dX3_lowCeiling_70
    · skip
      refine lv_aload_n hx hb dX3_lowCeiling_60 rfl (lv_at hl 0 rfl) ?_
      refine va_get (D := D) (ci := 2) (v := .ref (am 7)) (C := RX3) (T := TX3) (N := 19) hx hb hts hinM hown hK T.1 0 rfl rfl 10 (by decide) (hts _ (List.mem_cons_of_mem _ k3_f32)) (fun _ h9 => h9) rfl dX3_lowCeiling_61 ?_
      refine lv_iload_n hx hb dX3_lowCeiling_64 rfl (lv_at hl 1 rfl) ?_
      have h_65 : vp_in x1 32 := h1
      refine va_iald hx hb hK T.1 8 8 rfl rfl h_65 dX3_lowCeiling_65 ?_
      refine W.eq (g2 := F0 m 66 ls [.int (S x1.toNatClampNeg 7)]) rfl ?_
      refine lv_goto (tgt := 70) hx hb dX3_lowCeiling_66 (by decide) ?_
      have e9 : sm_lowCeiling_loop S B x1 0 i x = S x1.toNatClampNeg 7 := by rw [sm_lowCeiling_loop]; simp only [if_pos c_57]
      exact hw_iret C T rfl e9.symm rfl dX3_lowCeiling_70
  | succ k ih =>
    intro i x hik ls H locs T hl
    refine lv_iload_n hx hb dX3_lowCeiling_5 rfl (lv_at hl 3 rfl) ?_
    refine lv_aload_n hx hb dX3_lowCeiling_6 rfl (lv_at hl 0 rfl) ?_
    refine va_get (D := D) (ci := 2) (v := .int (G 0)) (C := RX3) (T := TX3) (N := 19) hx hb hts hinM hown hK T.1 0 rfl rfl 1 (by decide) (hts _ (List.mem_cons_of_mem _ k3_f57)) (fun _ h9 => h9) rfl dX3_lowCeiling_7 ?_
    refine lv_icmp_ge (tgt := 54) hx hb dX3_lowCeiling_10 (by decide) (fun c_10 => absurd c_10 (show ¬ G 0 ≤ nI i by rw [hG.2]; exact nI_ge (show i < n by omega) (by omega))) (fun c_10 => ?_)
    refine lv_aload_n hx hb dX3_lowCeiling_13 rfl (lv_at hl 0 rfl) ?_
    refine va_get (D := D) (ci := 2) (v := .ref (am 5)) (C := RX3) (T := TX3) (N := 19) hx hb hts hinM hown hK T.1 0 rfl rfl 7 (by decide) (hts _ (List.mem_cons_of_mem _ k3_f25)) (fun _ h9 => h9) rfl dX3_lowCeiling_14 ?_
    refine lv_bipush (v := 32) hx hb dX3_lowCeiling_17 (by decide) ?_
    refine lv_iload_n hx hb dX3_lowCeiling_19 rfl (lv_at hl 1 rfl) ?_
    refine lv_imul hx hb dX3_lowCeiling_20 ?_
    refine lv_iload_n hx hb dX3_lowCeiling_21 rfl (lv_at hl 3 rfl) ?_
    refine lv_iadd hx hb dX3_lowCeiling_22 ?_
    have h_23 : vp_in ((32 * x1) + (nI i)) 1024 := (mb_in h1 (vp_in_nI (show i < 32 by omega) (by decide)))
    refine va_zald hx hb hK T.1 6 6 rfl rfl h_23 dX3_lowCeiling_23 ?_
    refine W.eq (g2 := F0 m 24 ls [.int (B (((32 * x1) + (nI i)).toNatClampNeg))]) rfl ?_
    refine lv_if_eq (tgt := 46) hx hb dX3_lowCeiling_24 (by decide) (fun c_24 => ?_) (fun c_24 => ?_)
    · skip
      refine lv_iload_n hx hb dX3_lowCeiling_46 rfl (lv_at hl 2 rfl) ?_
      refine lv_istore_n (lv' := [(2, .int x), (0, .ref o), (1, .int x1), (3, .int (nI i))]) hx hb dX3_lowCeiling_47 rfl hl (by decide) rfl (fun ls hl => ?_)
      refine lv_iinc (v := nI (i + 1)) (lv' := [(3, .int (nI (i + 1))), (2, .int x), (0, .ref o), (1, .int x1)]) hx hb dX3_lowCeiling_48 hl (k := 3) rfl (nI_1 i) (by decide) rfl (fun ls hl => ?_)
      refine lv_goto (tgt := 5) hx hb dX3_lowCeiling_51 (by decide) ?_
      rw [show sm_lowCeiling_loop S B x1 (k + 1) i x = sm_lowCeiling_loop S B x1 k (i + 1) x from by rw [sm_lowCeiling_loop]; simp only [if_pos c_24]]
      exact ih (i + 1) _ (by omega) _ _ _ T (lv_sub hl [2, 3, 1, 0] rfl)
    · skip
      refine lv_aload_n hx hb dX3_lowCeiling_27 rfl (lv_at hl 0 rfl) ?_
      refine va_get (D := D) (ci := 2) (v := .ref (am 7)) (C := RX3) (T := TX3) (N := 19) hx hb hts hinM hown hK T.1 0 rfl rfl 10 (by decide) (hts _ (List.mem_cons_of_mem _ k3_f32)) (fun _ h9 => h9) rfl dX3_lowCeiling_28 ?_
      refine lv_iload_n hx hb dX3_lowCeiling_31 rfl (lv_at hl 3 rfl) ?_
      have h_32 : vp_in (nI i) 32 := vp_in_nI (show i < 32 by omega) (by decide)
      refine va_iald hx hb hK T.1 8 8 rfl rfl h_32 dX3_lowCeiling_32 ?_
      refine W.eq (g2 := F0 m 33 ls [.int (S i 7)]) (by rw [nI_clamp (show i < 2 ^ 31 by omega)] <;> rfl) ?_
      refine lv_iload_n hx hb dX3_lowCeiling_33 rfl (lv_at hl 2 rfl) ?_
      refine lv_icmp_ge (tgt := 46) hx hb dX3_lowCeiling_34 (by decide) (fun c_34 => ?_) (fun c_34 => ?_)
      · skip
        refine lv_iload_n hx hb dX3_lowCeiling_46 rfl (lv_at hl 2 rfl) ?_
        refine lv_istore_n (lv' := [(2, .int x), (0, .ref o), (1, .int x1), (3, .int (nI i))]) hx hb dX3_lowCeiling_47 rfl hl (by decide) rfl (fun ls hl => ?_)
        refine lv_iinc (v := nI (i + 1)) (lv' := [(3, .int (nI (i + 1))), (2, .int x), (0, .ref o), (1, .int x1)]) hx hb dX3_lowCeiling_48 hl (k := 3) rfl (nI_1 i) (by decide) rfl (fun ls hl => ?_)
        refine lv_goto (tgt := 5) hx hb dX3_lowCeiling_51 (by decide) ?_
        rw [show sm_lowCeiling_loop S B x1 (k + 1) i x = sm_lowCeiling_loop S B x1 k (i + 1) x from by rw [sm_lowCeiling_loop]; simp only [if_neg c_24, if_pos c_34]]
        exact ih (i + 1) _ (by omega) _ _ _ T (lv_sub hl [2, 3, 1, 0] rfl)
      · skip
        refine lv_aload_n hx hb dX3_lowCeiling_37 rfl (lv_at hl 0 rfl) ?_
        refine va_get (D := D) (ci := 2) (v := .ref (am 7)) (C := RX3) (T := TX3) (N := 19) hx hb hts hinM hown hK T.1 0 rfl rfl 10 (by decide) (hts _ (List.mem_cons_of_mem _ k3_f32)) (fun _ h9 => h9) rfl dX3_lowCeiling_38 ?_
        refine lv_iload_n hx hb dX3_lowCeiling_41 rfl (lv_at hl 3 rfl) ?_
        have h_42 : vp_in (nI i) 32 := vp_in_nI (show i < 32 by omega) (by decide)
        refine va_iald hx hb hK T.1 8 8 rfl rfl h_42 dX3_lowCeiling_42 ?_
        refine W.eq (g2 := F0 m 43 ls [.int (S i 7)]) (by rw [nI_clamp (show i < 2 ^ 31 by omega)] <;> rfl) ?_
        refine lv_goto (tgt := 47) hx hb dX3_lowCeiling_43 (by decide) ?_
        refine lv_istore_n (lv' := [(2, .int (S i 7)), (0, .ref o), (1, .int x1), (3, .int (nI i))]) hx hb dX3_lowCeiling_47 rfl hl (by decide) rfl (fun ls hl => ?_)
        refine lv_iinc (v := nI (i + 1)) (lv' := [(3, .int (nI (i + 1))), (2, .int (S i 7)), (0, .ref o), (1, .int x1)]) hx hb dX3_lowCeiling_48 hl (k := 3) rfl (nI_1 i) (by decide) rfl (fun ls hl => ?_)
        refine lv_goto (tgt := 5) hx hb dX3_lowCeiling_51 (by decide) ?_
        rw [show sm_lowCeiling_loop S B x1 (k + 1) i x = sm_lowCeiling_loop S B x1 k (i + 1) (S i 7) from by rw [sm_lowCeiling_loop]; simp only [if_neg c_24, if_neg c_34]]
        exact ih (i + 1) _ (by omega) _ _ _ T (lv_sub hl [2, 3, 1, 0] rfl)
/-- lowCeiling, its picture -/
def sm_lowCeiling (S : Nat → Nat → Int32) (B : Nat → Int32) (n : Nat) (x1 : Int32) : Int32 := sm_lowCeiling_loop S B x1 n 0 100000
set_option maxHeartbeats 4000000 in
set_option maxRecDepth 100000 in
theorem c_M_lowCeiling {x1 : Int32} (h1 : vp_in x1 32) (hG : hg_n G n) : MI l D (t0 :: md_tys cm) yX3_lowCeiling wsX3_lowCeiling { frames := 0, cells := 0, slots := 0, locals := 0 } [.ref o, .int x1] (md_W o am cm G S B) (sm_lowCeiling S B n x1) (md_W o am cm G S B) := by
  refine MI.start (cc := cX3_lowCeiling) (maxL := 4) (by decide) rfl (Nat.le_of_ble_eq_true rfl) (fun p e s m args below meth c A ls C T hl => ?_)
  have hx := C.1.1
  have hb := C.1.2.1
  have hml := C.1.2.2.1
  have hown : s.vm.findClass RX3 = some m.cls := C.1.2.2.2.1
  have hts := C.1.2.2.2.2
  have hK := C.2.2.2.1
  have hinM : ∀ w ∈ wsX30, w ∈ wsX3_lowCeiling := fun w h => List.mem_cons_of_mem _ (inX3 w h)
  have hn32 := hG.1
  have hl : lv_has ls 4 [(0, .ref o), (1, .int x1)] := hl
  refine lv_ldc (v := 100000) hx hb hown (hts (.constant RX3 76 100000) (List.mem_cons_of_mem _ k3_k76)) dX3_lowCeiling_0 ?_
  refine lv_istore_n (lv' := [(2, .int 100000), (0, .ref o), (1, .int x1)]) hx hb dX3_lowCeiling_2 rfl hl (by decide) rfl (fun ls hl => ?_)
  refine lv_iconst (v := 0) hx hb dX3_lowCeiling_3 (by decide) ?_
  refine lv_istore_n (lv' := [(3, .int 0), (2, .int 100000), (0, .ref o), (1, .int x1)]) hx hb dX3_lowCeiling_4 rfl hl (by decide) rfl (fun ls hl => ?_)
  rw [show sm_lowCeiling S B n x1 = sm_lowCeiling_loop S B x1 n 0 100000 from by rfl]
  exact lp_m_lowCeiling h1 hG C n 0 _ (by omega) _ _ _ T (lv_sub hl [2, 3, 1, 0] rfl)
/-- many: its loop, by what is left to do -/
def sm_many_loop (S : Nat → Nat → Int32) : Nat → Nat → Int32 → Int32
  | 0, _, x => x
  | k + 1, i, x => if (S i 8) < 0 then (sm_many_loop S k (i + 1) (x + 0)) else (sm_many_loop S k (i + 1) (x + 1))
set_option maxHeartbeats 4000000 in
set_option maxRecDepth 100000 in
theorem lp_m_many {p : Program} {e : Env} {s : State} {m : MethodId} {args : Array Value} {below : List Frame} {meth : Method} {c : Code} {A : Nat → Prop}  (hG : hg_n G n) (C : hw_C p s m args meth c cX3_many (some .int) 3 wsX3_many yX3_many.cls D (t0 :: md_tys cm) A) :
    ∀ (k i : Nat) (x : Int32), i + k = n → ∀ (ls : Array Slot) (H : Heap) (locs : List Loc), hw_T D A s.heap (md_W o am cm G S B) H locs → lv_has ls 3 [(0, .ref o), (1, .int x), (2, .int (nI i))] → W p l e { frames := 0, cells := 0, slots := 0, locals := 0 } s m args below meth c H locs 0 0 (MQ below (va_Qi (fun (r' : Int32) (_ : Unit) => r' = sm_many_loop S k i x) (fun _ t => va_P D vwCl (md_W o am cm G S B) t.heap) A) args s 0 0 A) (F0 m 4 ls []) := by
  have hx := C.1.1
  have hb := C.1.2.1
  have hml := C.1.2.2.1
  have hown : s.vm.findClass RX3 = some m.cls := C.1.2.2.2.1
  have hts := C.1.2.2.2.2
  have hK := C.2.2.2.1
  have hinM : ∀ w ∈ wsX30, w ∈ wsX3_many := fun w h => List.mem_cons_of_mem _ (inX3 w h)
  have hn32 := hG.1
  intro k
  induction k with
  | zero =>
    intro i x hik ls H locs T hl
    refine lv_iload_n hx hb dX3_many_4 rfl (lv_at hl 2 rfl) ?_
    refine lv_aload_n hx hb dX3_many_5 rfl (lv_at hl 0 rfl) ?_
    refine va_get (D := D) (ci := 2) (v := .int (G 0)) (C := RX3) (T := TX3) (N := 19) hx hb hts hinM hown hK T.1 0 rfl rfl 1 (by decide) (hts _ (List.mem_cons_of_mem _ k3_f57)) (fun _ h9 => h9) rfl dX3_many_6 ?_
    refine lv_icmp_ge (tgt := 35) hx hb dX3_many_9 (by decide) (fun c_9 => ?_) (fun c_9 => absurd (show G 0 ≤ nI i by rw [hG.2]; exact nI_le (show n ≤ i by omega) (by omega)) c_9)
    refine lv_iload_n hx hb dX3_many_35 rfl (lv_at hl 1 rfl) ?_
    have e9 : sm_many_loop S 0 i x = x := by rw [sm_many_loop]
    exact hw_iret C T rfl e9.symm rfl dX3_many_36
  | succ k ih =>
    intro i x hik ls H locs T hl
    refine lv_iload_n hx hb dX3_many_4 rfl (lv_at hl 2 rfl) ?_
    refine lv_aload_n hx hb dX3_many_5 rfl (lv_at hl 0 rfl) ?_
    refine va_get (D := D) (ci := 2) (v := .int (G 0)) (C := RX3) (T := TX3) (N := 19) hx hb hts hinM hown hK T.1 0 rfl rfl 1 (by decide) (hts _ (List.mem_cons_of_mem _ k3_f57)) (fun _ h9 => h9) rfl dX3_many_6 ?_
    refine lv_icmp_ge (tgt := 35) hx hb dX3_many_9 (by decide) (fun c_9 => absurd c_9 (show ¬ G 0 ≤ nI i by rw [hG.2]; exact nI_ge (show i < n by omega) (by omega))) (fun c_9 => ?_)
    refine lv_iload_n hx hb dX3_many_12 rfl (lv_at hl 1 rfl) ?_
    refine lv_aload_n hx hb dX3_many_13 rfl (lv_at hl 0 rfl) ?_
    refine va_get (D := D) (ci := 2) (v := .ref (am 8)) (C := RX3) (T := TX3) (N := 19) hx hb hts hinM hown hK T.1 0 rfl rfl 11 (by decide) (hts _ (List.mem_cons_of_mem _ k3_f35)) (fun _ h9 => h9) rfl dX3_many_14 ?_
    refine lv_iload_n hx hb dX3_many_17 rfl (lv_at hl 2 rfl) ?_
    have h_18 : vp_in (nI i) 32 := vp_in_nI (show i < 32 by omega) (by decide)
    refine va_iald hx hb hK T.1 9 9 rfl rfl h_18 dX3_many_18 ?_
    refine W.eq (g2 := F0 m 19 ls [.int (S i 8), .int x]) (by rw [nI_clamp (show i < 2 ^ 31 by omega)] <;> rfl) ?_
    refine lv_if_lt (tgt := 26) hx hb dX3_many_19 (by decide) (fun c_19 => ?_) (fun c_19 => ?_)
    · skip
      refine lv_iconst (v := 0) hx hb dX3_many_26 (by decide) ?_
      refine lv_iadd hx hb dX3_many_27 ?_
      refine lv_istore_n (lv' := [(1, .int (x + 0)), (0, .ref o), (2, .int (nI i))]) hx hb dX3_many_28 rfl hl (by decide) rfl (fun ls hl => ?_)
      refine lv_iinc (v := nI (i + 1)) (lv' := [(2, .int (nI (i + 1))), (1, .int (x + 0)), (0, .ref o)]) hx hb dX3_many_29 hl (k := 2) rfl (nI_1 i) (by decide) rfl (fun ls hl => ?_)
      refine lv_goto (tgt := 4) hx hb dX3_many_32 (by decide) ?_
      rw [show sm_many_loop S (k + 1) i x = sm_many_loop S k (i + 1) (x + 0) from by rw [sm_many_loop]; simp only [if_pos c_19]]
      exact ih (i + 1) _ (by omega) _ _ _ T (lv_sub hl [2, 1, 0] rfl)
    · skip
      refine lv_iconst (v := 1) hx hb dX3_many_22 (by decide) ?_
      refine lv_goto (tgt := 27) hx hb dX3_many_23 (by decide) ?_
      refine lv_iadd hx hb dX3_many_27 ?_
      refine lv_istore_n (lv' := [(1, .int (x + 1)), (0, .ref o), (2, .int (nI i))]) hx hb dX3_many_28 rfl hl (by decide) rfl (fun ls hl => ?_)
      refine lv_iinc (v := nI (i + 1)) (lv' := [(2, .int (nI (i + 1))), (1, .int (x + 1)), (0, .ref o)]) hx hb dX3_many_29 hl (k := 2) rfl (nI_1 i) (by decide) rfl (fun ls hl => ?_)
      refine lv_goto (tgt := 4) hx hb dX3_many_32 (by decide) ?_
      rw [show sm_many_loop S (k + 1) i x = sm_many_loop S k (i + 1) (x + 1) from by rw [sm_many_loop]; simp only [if_neg c_19]]
      exact ih (i + 1) _ (by omega) _ _ _ T (lv_sub hl [2, 1, 0] rfl)
/-- many, its picture -/
def sm_many (S : Nat → Nat → Int32) (n : Nat) : Int32 := sm_many_loop S n 0 0
set_option maxHeartbeats 4000000 in
set_option maxRecDepth 100000 in
theorem c_M_many  (hG : hg_n G n) : MI l D (t0 :: md_tys cm) yX3_many wsX3_many { frames := 0, cells := 0, slots := 0, locals := 0 } [.ref o] (md_W o am cm G S B) (sm_many S n) (md_W o am cm G S B) := by
  refine MI.start (cc := cX3_many) (maxL := 3) (by decide) rfl (Nat.le_of_ble_eq_true rfl) (fun p e s m args below meth c A ls C T hl => ?_)
  have hx := C.1.1
  have hb := C.1.2.1
  have hml := C.1.2.2.1
  have hown : s.vm.findClass RX3 = some m.cls := C.1.2.2.2.1
  have hts := C.1.2.2.2.2
  have hK := C.2.2.2.1
  have hinM : ∀ w ∈ wsX30, w ∈ wsX3_many := fun w h => List.mem_cons_of_mem _ (inX3 w h)
  have hn32 := hG.1
  have hl : lv_has ls 3 [(0, .ref o)] := hl
  refine lv_iconst (v := 0) hx hb dX3_many_0 (by decide) ?_
  refine lv_istore_n (lv' := [(1, .int 0), (0, .ref o)]) hx hb dX3_many_1 rfl hl (by decide) rfl (fun ls hl => ?_)
  refine lv_iconst (v := 0) hx hb dX3_many_2 (by decide) ?_
  refine lv_istore_n (lv' := [(2, .int 0), (1, .int 0), (0, .ref o)]) hx hb dX3_many_3 rfl hl (by decide) rfl (fun ls hl => ?_)
  rw [show sm_many S n = sm_many_loop S n 0 0 from by rfl]
  exact lp_m_many hG C n 0 _ (by omega) _ _ _ T (lv_sub hl [2, 1, 0] rfl)
/-- lightOf, its picture -/
def sm_lightOf (G : Nat → Int32) (S : Nat → Nat → Int32) (n : Nat) (x1 : Int32) : Int32 := if (S x1.toNatClampNeg 3) = 1 then (if 4 ≤ ((G 2) - (G 2) / 16 * 16) then ((S x1.toNatClampNeg 2) / 2) else (S x1.toNatClampNeg 2)) else (if (S x1.toNatClampNeg 3) = 2 then (if (((G 2) / 32) - ((G 2) / 32) / 2 * 2) = 0 then (S x1.toNatClampNeg 2) else 0) else (if (S x1.toNatClampNeg 3) = 3 then (if 0 ≤ ((S x1.toNatClampNeg 2) - (sm_many S n)) then ((S x1.toNatClampNeg 2) - (sm_many S n)) else 0) else (S x1.toNatClampNeg 2)))
set_option maxHeartbeats 4000000 in
set_option maxRecDepth 100000 in
theorem c_M_lightOf {x1 : Int32} (h1 : vp_in x1 32) (hG : hg_n G n) : MI l D (t0 :: md_tys cm) yX3_lightOf wsX3_lightOf { frames := 1, cells := 0, slots := 0, locals := 22 } [.ref o, .int x1] (md_W o am cm G S B) (sm_lightOf G S n x1) (md_W o am cm G S B) := by
  refine MI.start (cc := cX3_lightOf) (maxL := 4) (by decide) rfl (Nat.le_of_ble_eq_true rfl) (fun p e s m args below meth c A ls C T hl => ?_)
  have hx := C.1.1
  have hb := C.1.2.1
  have hml := C.1.2.2.1
  have hown : s.vm.findClass RX3 = some m.cls := C.1.2.2.2.1
  have hts := C.1.2.2.2.2
  have hK := C.2.2.2.1
  have hinM : ∀ w ∈ wsX30, w ∈ wsX3_lightOf := fun w h => List.mem_cons_of_mem _ (inX3 w h)
  have hn32 := hG.1
  have hl : lv_has ls 4 [(0, .ref o), (1, .int x1)] := hl
  refine lv_aload_n hx hb dX3_lightOf_0 rfl (lv_at hl 0 rfl) ?_
  refine va_get (D := D) (ci := 2) (v := .ref (am 2)) (C := RX3) (T := TX3) (N := 19) hx hb hts hinM hown hK T.1 0 rfl rfl 4 (by decide) (hts _ (List.mem_cons_of_mem _ k3_f16)) (fun _ h9 => h9) rfl dX3_lightOf_1 ?_
  refine lv_iload_n hx hb dX3_lightOf_4 rfl (lv_at hl 1 rfl) ?_
  have h_5 : vp_in x1 32 := h1
  refine va_iald hx hb hK T.1 3 3 rfl rfl h_5 dX3_lightOf_5 ?_
  refine W.eq (g2 := F0 m 6 ls [.int (S x1.toNatClampNeg 2)]) rfl ?_
  refine lv_istore_n (lv' := [(2, .int (S x1.toNatClampNeg 2)), (0, .ref o), (1, .int x1)]) hx hb dX3_lightOf_6 rfl hl (by decide) rfl (fun ls hl => ?_)
  refine lv_iload_n hx hb dX3_lightOf_7 rfl (lv_at hl 0 rfl) ?_
  refine lv_aload_n hx hb dX3_lightOf_8 rfl (lv_at hl 1 rfl) ?_
  refine hw_Vi (As := []) (rest := [.int (S x1.toNatClampNeg 2)]) C T (c_M_many hG) (cwV 0 hts (x3_in k3_m109 k3_i_many k3_s_many k3_ini k3_c_many) rfl rfl rfl (by decide +kernel) ⟨Nat.le_of_ble_eq_true rfl, Nat.le_of_ble_eq_true rfl⟩) md_isO md_ad rfl hl.1 rfl (Nat.le_of_ble_eq_true rfl) dX3_lightOf_9 ⟨Nat.zero_le _, Nat.zero_le _⟩ (fun H locs T => ?_)
  refine lv_isub hx hb dX3_lightOf_12 ?_
  refine lv_istore_n (lv' := [(3, .int ((S x1.toNatClampNeg 2) - (sm_many S n))), (2, .int (S x1.toNatClampNeg 2)), (0, .ref o), (1, .int x1)]) hx hb dX3_lightOf_13 rfl hl (by decide) rfl (fun ls hl => ?_)
  refine lv_aload_n hx hb dX3_lightOf_14 rfl (lv_at hl 2 rfl) ?_
  refine va_get (D := D) (ci := 2) (v := .ref (am 3)) (C := RX3) (T := TX3) (N := 19) hx hb hts hinM hown hK T.1 0 rfl rfl 5 (by decide) (hts _ (List.mem_cons_of_mem _ k3_f19)) (fun _ h9 => h9) rfl dX3_lightOf_15 ?_
  refine lv_iload_n hx hb dX3_lightOf_18 rfl (lv_at hl 3 rfl) ?_
  have h_19 : vp_in x1 32 := h1
  refine va_iald hx hb hK T.1 4 4 rfl rfl h_19 dX3_lightOf_19 ?_
  refine W.eq (g2 := F0 m 20 ls [.int (S x1.toNatClampNeg 3)]) rfl ?_
  by_cases c_20_1 : (S x1.toNatClampNeg 3) = 1
  · skip
    refine lv_tableIn (off := 28) (tgt := 48) hx hb dX3_lightOf_20 (by rw [c_20_1]; decide) (by rw [c_20_1]; decide) (by rw [c_20_1]; decide +kernel) (by decide) ?_
    refine lv_aload_n hx hb dX3_lightOf_48 rfl (lv_at hl 2 rfl) ?_
    refine va_get (D := D) (ci := 2) (v := .int (G 2)) (C := RX3) (T := TX3) (N := 19) hx hb hts hinM hown hK T.1 0 rfl rfl 16 (by decide) (hts _ (List.mem_cons_of_mem _ k3_f70)) (fun _ h9 => h9) rfl dX3_lightOf_49 ?_
    refine lv_bipush (v := 16) hx hb dX3_lightOf_52 (by decide) ?_
    refine lv_irem hx hb dX3_lightOf_54 (by decide) ?_
    refine lv_iconst (v := 4) hx hb dX3_lightOf_55 (by decide) ?_
    refine lv_icmp_ge (tgt := 63) hx hb dX3_lightOf_56 (by decide) (fun c_56 => ?_) (fun c_56 => ?_)
    · skip
      refine lv_iload_n hx hb dX3_lightOf_63 rfl (lv_at hl 1 rfl) ?_
      refine lv_iconst (v := 2) hx hb dX3_lightOf_64 (by decide) ?_
      refine lv_idiv hx hb dX3_lightOf_65 (by decide) ?_
      have e9 : sm_lightOf G S n x1 = (S x1.toNatClampNeg 2) / 2 := by unfold sm_lightOf; simp only [if_pos c_20_1, if_pos c_56]
      exact hw_iret C T rfl e9.symm rfl dX3_lightOf_66
    · skip
      refine lv_iload_n hx hb dX3_lightOf_59 rfl (lv_at hl 1 rfl) ?_
      refine lv_goto (tgt := 66) hx hb dX3_lightOf_60 (by decide) ?_
      have e9 : sm_lightOf G S n x1 = S x1.toNatClampNeg 2 := by unfold sm_lightOf; simp only [if_pos c_20_1, if_neg c_56]
      exact hw_iret C T rfl e9.symm rfl dX3_lightOf_66
  · skip
    by_cases c_20_2 : (S x1.toNatClampNeg 3) = 2
    · skip
      refine lv_tableIn (off := 47) (tgt := 67) hx hb dX3_lightOf_20 (by rw [c_20_2]; decide) (by rw [c_20_2]; decide) (by rw [c_20_2]; decide +kernel) (by decide) ?_
      refine lv_aload_n hx hb dX3_lightOf_67 rfl (lv_at hl 2 rfl) ?_
      refine va_get (D := D) (ci := 2) (v := .int (G 2)) (C := RX3) (T := TX3) (N := 19) hx hb hts hinM hown hK T.1 0 rfl rfl 16 (by decide) (hts _ (List.mem_cons_of_mem _ k3_f70)) (fun _ h9 => h9) rfl dX3_lightOf_68 ?_
      refine lv_bipush (v := 32) hx hb dX3_lightOf_71 (by decide) ?_
      refine lv_idiv hx hb dX3_lightOf_73 (by decide) ?_
      refine lv_iconst (v := 2) hx hb dX3_lightOf_74 (by decide) ?_
      refine lv_irem hx hb dX3_lightOf_75 (by decide) ?_
      refine lv_if_ne (tgt := 83) hx hb dX3_lightOf_76 (by decide) (fun c_76 => ?_) (fun c_76 => ?_)
      · skip
        refine lv_iconst (v := 0) hx hb dX3_lightOf_83 (by decide) ?_
        have e9 : sm_lightOf G S n x1 = 0 := by unfold sm_lightOf; simp only [if_neg c_20_1, if_pos c_20_2, if_neg c_76]
        exact hw_iret C T rfl e9.symm rfl dX3_lightOf_84
      · skip
        refine lv_iload_n hx hb dX3_lightOf_79 rfl (lv_at hl 1 rfl) ?_
        refine lv_goto (tgt := 84) hx hb dX3_lightOf_80 (by decide) ?_
        have e9 : sm_lightOf G S n x1 = S x1.toNatClampNeg 2 := by unfold sm_lightOf; simp only [if_neg c_20_1, if_pos c_20_2, if_pos c_76]
        exact hw_iret C T rfl e9.symm rfl dX3_lightOf_84
    · skip
      by_cases c_20_3 : (S x1.toNatClampNeg 3) = 3
      · skip
        refine lv_tableIn (off := 65) (tgt := 85) hx hb dX3_lightOf_20 (by rw [c_20_3]; decide) (by rw [c_20_3]; decide) (by rw [c_20_3]; decide +kernel) (by decide) ?_
        refine lv_iload_n hx hb dX3_lightOf_85 rfl (lv_at hl 0 rfl) ?_
        refine lv_if_ge (tgt := 93) hx hb dX3_lightOf_86 (by decide) (fun c_86 => ?_) (fun c_86 => ?_)
        · skip
          refine lv_iload_n hx hb dX3_lightOf_93 rfl (lv_at hl 0 rfl) ?_
          have e9 : sm_lightOf G S n x1 = (S x1.toNatClampNeg 2) - (sm_many S n) := by unfold sm_lightOf; simp only [if_neg c_20_1, if_neg c_20_2, if_pos c_20_3, if_pos c_86]
          exact hw_iret C T rfl e9.symm rfl dX3_lightOf_94
        · skip
          refine lv_iconst (v := 0) hx hb dX3_lightOf_89 (by decide) ?_
          refine lv_goto (tgt := 94) hx hb dX3_lightOf_90 (by decide) ?_
          have e9 : sm_lightOf G S n x1 = 0 := by unfold sm_lightOf; simp only [if_neg c_20_1, if_neg c_20_2, if_pos c_20_3, if_neg c_86]
          exact hw_iret C T rfl e9.symm rfl dX3_lightOf_94
      · skip
        refine lv_tableOut (tgt := 95) hx hb dX3_lightOf_20 (by have z1 := lv_neT (a := 1) c_20_1 (by decide); have z2 := lv_neT (a := 2) c_20_2 (by decide); have z3 := lv_neT (a := 3) c_20_3 (by decide); omega) (by decide) ?_
        refine lv_iload_n hx hb dX3_lightOf_95 rfl (lv_at hl 1 rfl) ?_
        have e9 : sm_lightOf G S n x1 = S x1.toNatClampNeg 2 := by unfold sm_lightOf; simp only [if_neg c_20_1, if_neg c_20_2, if_neg c_20_3]
        exact hw_iret C T rfl e9.symm rfl dX3_lightOf_96
end
end
section
section
variable {l : Launch} {D : va_G} {o : Nat} {am : Nat → Nat} {cm : Nat → ClassId} {t0 : ClassId × FieldType} {G : Nat → Int32} {S : Nat → Nat → Int32} {B : Nat → Int32} {n : Nat}
/-- end, its picture -/
def sm_end (S : Nat → Nat → Int32) (x1 : Int32) : Nat → Nat → Int32 := up2 (up2 (up2 S x1.toNatClampNeg 8 (-1)) x1.toNatClampNeg 9 0) x1.toNatClampNeg 11 (-1)
set_option maxHeartbeats 4000000 in
set_option maxRecDepth 100000 in
theorem c_M_end {x1 : Int32} (h1 : vp_in x1 32) : MV l D (t0 :: md_tys cm) yX3_end wsX3_end { frames := 0, cells := 0, slots := 0, locals := 0 } [.ref o, .int x1] (md_W o am cm G S B) (md_W o am cm G (sm_end S x1) B) := by
  refine MV.start (cc := cX3_end) (maxL := 2) (by decide) rfl (Nat.le_of_ble_eq_true rfl) (fun p e s m args below meth c A ls C T hl => ?_)
  have hx := C.1.1
  have hb := C.1.2.1
  have hml := C.1.2.2.1
  have hown : s.vm.findClass RX3 = some m.cls := C.1.2.2.2.1
  have hts := C.1.2.2.2.2
  have hK := C.2.2.2.1
  have hinM : ∀ w ∈ wsX30, w ∈ wsX3_end := fun w h => List.mem_cons_of_mem _ (inX3 w h)
  have hl : lv_has ls 2 [(0, .ref o), (1, .int x1)] := hl
  refine lv_aload_n hx hb dX3_end_0 rfl (lv_at hl 0 rfl) ?_
  refine va_get (D := D) (ci := 2) (v := .ref (am 8)) (C := RX3) (T := TX3) (N := 19) hx hb hts hinM hown hK T.1 0 rfl rfl 11 (by decide) (hts _ (List.mem_cons_of_mem _ k3_f35)) (fun _ h9 => h9) rfl dX3_end_1 ?_
  refine lv_iload_n hx hb dX3_end_4 rfl (lv_at hl 1 rfl) ?_
  refine lv_iconst (v := (-1)) hx hb dX3_end_5 (by decide) ?_
  have h_6 : vp_in x1 32 := h1
  refine va_iast (x := (-1)) hx hb hK T.1 T.2.1 T.2.2 9 9 rfl rfl h_6 dX3_end_6 (fun H locs hP hD hS => ?_)
  have T := md_set8 (i := x1.toNatClampNeg) (v := (-1)) ⟨hP, hD, hS⟩
  refine lv_aload_n hx hb dX3_end_7 rfl (lv_at hl 0 rfl) ?_
  refine va_get (D := D) (ci := 2) (v := .ref (am 9)) (C := RX3) (T := TX3) (N := 19) hx hb hts hinM hown hK T.1 0 rfl rfl 12 (by decide) (hts _ (List.mem_cons_of_mem _ k3_f38)) (fun _ h9 => h9) rfl dX3_end_8 ?_
  refine lv_iload_n hx hb dX3_end_11 rfl (lv_at hl 1 rfl) ?_
  refine lv_iconst (v := 0) hx hb dX3_end_12 (by decide) ?_
  have h_13 : vp_in x1 32 := h1
  refine va_iast (x := 0) hx hb hK T.1 T.2.1 T.2.2 10 10 rfl rfl h_13 dX3_end_13 (fun H locs hP hD hS => ?_)
  have T := md_set9 (i := x1.toNatClampNeg) (v := 0) ⟨hP, hD, hS⟩
  refine lv_aload_n hx hb dX3_end_14 rfl (lv_at hl 0 rfl) ?_
  refine va_get (D := D) (ci := 2) (v := .ref (am 11)) (C := RX3) (T := TX3) (N := 19) hx hb hts hinM hown hK T.1 0 rfl rfl 14 (by decide) (hts _ (List.mem_cons_of_mem _ k3_f44)) (fun _ h9 => h9) rfl dX3_end_15 ?_
  refine lv_iload_n hx hb dX3_end_18 rfl (lv_at hl 1 rfl) ?_
  refine lv_iconst (v := (-1)) hx hb dX3_end_19 (by decide) ?_
  have h_20 : vp_in x1 32 := h1
  refine va_iast (x := (-1)) hx hb hK T.1 T.2.1 T.2.2 12 12 rfl rfl h_20 dX3_end_20 (fun H locs hP hD hS => ?_)
  have T := md_set11 (i := x1.toNatClampNeg) (v := (-1)) ⟨hP, hD, hS⟩
  have e9 : sm_end S x1 = up2 (up2 (up2 S x1.toNatClampNeg 8 (-1)) x1.toNatClampNeg 9 0) x1.toNatClampNeg 11 (-1) := by rfl
  exact hw_vret C T (by rw [e9]) dX3_end_21
/-- await, its picture -/
def sm_await (S : Nat → Nat → Int32) (x1 : Int32) (x2 : Int32) : Nat → Nat → Int32 := up2 (up2 S x1.toNatClampNeg 9 0) x1.toNatClampNeg 10 x2
set_option maxHeartbeats 4000000 in
set_option maxRecDepth 100000 in
theorem c_M_await {x1 : Int32} {x2 : Int32} (h1 : vp_in x1 32) : MV l D (t0 :: md_tys cm) yX3_await wsX3_await { frames := 0, cells := 0, slots := 0, locals := 0 } [.ref o, .int x1, .int x2] (md_W o am cm G S B) (md_W o am cm G (sm_await S x1 x2) B) := by
  refine MV.start (cc := cX3_await) (maxL := 3) (by decide) rfl (Nat.le_of_ble_eq_true rfl) (fun p e s m args below meth c A ls C T hl => ?_)
  have hx := C.1.1
  have hb := C.1.2.1
  have hml := C.1.2.2.1
  have hown : s.vm.findClass RX3 = some m.cls := C.1.2.2.2.1
  have hts := C.1.2.2.2.2
  have hK := C.2.2.2.1
  have hinM : ∀ w ∈ wsX30, w ∈ wsX3_await := fun w h => List.mem_cons_of_mem _ (inX3 w h)
  have hl : lv_has ls 3 [(0, .ref o), (1, .int x1), (2, .int x2)] := hl
  refine lv_aload_n hx hb dX3_await_0 rfl (lv_at hl 0 rfl) ?_
  refine va_get (D := D) (ci := 2) (v := .ref (am 9)) (C := RX3) (T := TX3) (N := 19) hx hb hts hinM hown hK T.1 0 rfl rfl 12 (by decide) (hts _ (List.mem_cons_of_mem _ k3_f38)) (fun _ h9 => h9) rfl dX3_await_1 ?_
  refine lv_iload_n hx hb dX3_await_4 rfl (lv_at hl 1 rfl) ?_
  refine lv_iconst (v := 0) hx hb dX3_await_5 (by decide) ?_
  have h_6 : vp_in x1 32 := h1
  refine va_iast (x := 0) hx hb hK T.1 T.2.1 T.2.2 10 10 rfl rfl h_6 dX3_await_6 (fun H locs hP hD hS => ?_)
  have T := md_set9 (i := x1.toNatClampNeg) (v := 0) ⟨hP, hD, hS⟩
  refine lv_aload_n hx hb dX3_await_7 rfl (lv_at hl 0 rfl) ?_
  refine va_get (D := D) (ci := 2) (v := .ref (am 10)) (C := RX3) (T := TX3) (N := 19) hx hb hts hinM hown hK T.1 0 rfl rfl 13 (by decide) (hts _ (List.mem_cons_of_mem _ k3_f41)) (fun _ h9 => h9) rfl dX3_await_8 ?_
  refine lv_iload_n hx hb dX3_await_11 rfl (lv_at hl 1 rfl) ?_
  refine lv_iload_n hx hb dX3_await_12 rfl (lv_at hl 2 rfl) ?_
  have h_13 : vp_in x1 32 := h1
  refine va_iast (x := x2) hx hb hK T.1 T.2.1 T.2.2 11 11 rfl rfl h_13 dX3_await_13 (fun H locs hP hD hS => ?_)
  have T := md_set10 (i := x1.toNatClampNeg) (v := x2) ⟨hP, hD, hS⟩
  have e9 : sm_await S x1 x2 = up2 (up2 S x1.toNatClampNeg 9 0) x1.toNatClampNeg 10 x2 := by rfl
  exact hw_vret C T (by rw [e9]) dX3_await_14
/-- stepDoor, its picture -/
def sm_stepDoor (G : Nat → Int32) (S : Nat → Nat → Int32) (x1 : Int32) : (Nat → Int32) × (Nat → Nat → Int32) := if (S x1.toNatClampNeg 9) ≤ 0 then (if (S x1.toNatClampNeg 6) ≤ ((S x1.toNatClampNeg 7) + (8 * (S x1.toNatClampNeg 9))) then (if (G 5) = x1 then (if 56 ≤ (((S x1.toNatClampNeg 7) + (8 * (S x1.toNatClampNeg 9))) - (S x1.toNatClampNeg 6)) then (if ((S x1.toNatClampNeg 7) + (8 * (S x1.toNatClampNeg 9))) = ((up2 S x1.toNatClampNeg 7 ((S x1.toNatClampNeg 7) + (8 * (S x1.toNatClampNeg 9)))) x1.toNatClampNeg 6) then (G, sm_end (up2 S x1.toNatClampNeg 7 ((S x1.toNatClampNeg 7) + (8 * (S x1.toNatClampNeg 9)))) x1) else (G, up2 S x1.toNatClampNeg 7 ((S x1.toNatClampNeg 7) + (8 * (S x1.toNatClampNeg 9))))) else (upd G 4 ((G 4) + 1), up2 S x1.toNatClampNeg 9 1)) else (if ((S x1.toNatClampNeg 7) + (8 * (S x1.toNatClampNeg 9))) = ((up2 S x1.toNatClampNeg 7 ((S x1.toNatClampNeg 7) + (8 * (S x1.toNatClampNeg 9)))) x1.toNatClampNeg 6) then (G, sm_end (up2 S x1.toNatClampNeg 7 ((S x1.toNatClampNeg 7) + (8 * (S x1.toNatClampNeg 9)))) x1) else (G, up2 S x1.toNatClampNeg 7 ((S x1.toNatClampNeg 7) + (8 * (S x1.toNatClampNeg 9)))))) else (if (G 5) = x1 then (if 56 ≤ ((S x1.toNatClampNeg 6) - (S x1.toNatClampNeg 6)) then (if (S x1.toNatClampNeg 6) = ((up2 S x1.toNatClampNeg 7 (S x1.toNatClampNeg 6)) x1.toNatClampNeg 6) then (G, sm_end (up2 S x1.toNatClampNeg 7 (S x1.toNatClampNeg 6)) x1) else (G, up2 S x1.toNatClampNeg 7 (S x1.toNatClampNeg 6))) else (upd G 4 ((G 4) + 1), up2 S x1.toNatClampNeg 9 1)) else (if (S x1.toNatClampNeg 6) = ((up2 S x1.toNatClampNeg 7 (S x1.toNatClampNeg 6)) x1.toNatClampNeg 6) then (G, sm_end (up2 S x1.toNatClampNeg 7 (S x1.toNatClampNeg 6)) x1) else (G, up2 S x1.toNatClampNeg 7 (S x1.toNatClampNeg 6))))) else (if ((S x1.toNatClampNeg 7) + (8 * (S x1.toNatClampNeg 9))) ≤ (S x1.toNatClampNeg 11) then (if ((up2 S x1.toNatClampNeg 7 ((S x1.toNatClampNeg 7) + (8 * (S x1.toNatClampNeg 9)))) x1.toNatClampNeg 7) = ((up2 S x1.toNatClampNeg 7 ((S x1.toNatClampNeg 7) + (8 * (S x1.toNatClampNeg 9)))) x1.toNatClampNeg 11) then (G, sm_await (up2 S x1.toNatClampNeg 7 ((S x1.toNatClampNeg 7) + (8 * (S x1.toNatClampNeg 9)))) x1 20) else (G, up2 S x1.toNatClampNeg 7 ((S x1.toNatClampNeg 7) + (8 * (S x1.toNatClampNeg 9))))) else (if ((up2 S x1.toNatClampNeg 7 (S x1.toNatClampNeg 11)) x1.toNatClampNeg 7) = ((up2 S x1.toNatClampNeg 7 (S x1.toNatClampNeg 11)) x1.toNatClampNeg 11) then (G, sm_await (up2 S x1.toNatClampNeg 7 (S x1.toNatClampNeg 11)) x1 20) else (G, up2 S x1.toNatClampNeg 7 (S x1.toNatClampNeg 11))))
theorem sm_stepDoor_0 {G : Nat → Int32} {S : Nat → Nat → Int32} {x1 : Int32} : (sm_stepDoor G S x1).1 0 = G 0 := by
  unfold sm_stepDoor
  repeat' split
  all_goals rfl
set_option maxHeartbeats 4000000 in
set_option maxRecDepth 100000 in
theorem c_M_stepDoor {x1 : Int32} (h1 : vp_in x1 32) : MV l D (t0 :: md_tys cm) yX3_stepDoor wsX3_stepDoor { frames := 1, cells := 0, slots := 0, locals := 22 } [.ref o, .int x1] (md_W o am cm G S B) (md_W o am cm (sm_stepDoor G S x1).1 (sm_stepDoor G S x1).2 B) := by
  refine MV.start (cc := cX3_stepDoor) (maxL := 3) (by decide) rfl (Nat.le_of_ble_eq_true rfl) (fun p e s m args below meth c A ls C T hl => ?_)
  have hx := C.1.1
  have hb := C.1.2.1
  have hml := C.1.2.2.1
  have hown : s.vm.findClass RX3 = some m.cls := C.1.2.2.2.1
  have hts := C.1.2.2.2.2
  have hK := C.2.2.2.1
  have hinM : ∀ w ∈ wsX30, w ∈ wsX3_stepDoor := fun w h => List.mem_cons_of_mem _ (inX3 w h)
  have hl : lv_has ls 3 [(0, .ref o), (1, .int x1)] := hl
  refine lv_aload_n hx hb dX3_stepDoor_0 rfl (lv_at hl 0 rfl) ?_
  refine va_get (D := D) (ci := 2) (v := .ref (am 7)) (C := RX3) (T := TX3) (N := 19) hx hb hts hinM hown hK T.1 0 rfl rfl 10 (by decide) (hts _ (List.mem_cons_of_mem _ k3_f32)) (fun _ h9 => h9) rfl dX3_stepDoor_1 ?_
  refine lv_iload_n hx hb dX3_stepDoor_4 rfl (lv_at hl 1 rfl) ?_
  have h_5 : vp_in x1 32 := h1
  refine va_iald hx hb hK T.1 8 8 rfl rfl h_5 dX3_stepDoor_5 ?_
  refine W.eq (g2 := F0 m 6 ls [.int (S x1.toNatClampNeg 7)]) rfl ?_
  refine lv_bipush (v := 8) hx hb dX3_stepDoor_6 (by decide) ?_
  refine lv_aload_n hx hb dX3_stepDoor_8 rfl (lv_at hl 0 rfl) ?_
  refine va_get (D := D) (ci := 2) (v := .ref (am 9)) (C := RX3) (T := TX3) (N := 19) hx hb hts hinM hown hK T.1 0 rfl rfl 12 (by decide) (hts _ (List.mem_cons_of_mem _ k3_f38)) (fun _ h9 => h9) rfl dX3_stepDoor_9 ?_
  refine lv_iload_n hx hb dX3_stepDoor_12 rfl (lv_at hl 1 rfl) ?_
  have h_13 : vp_in x1 32 := h1
  refine va_iald hx hb hK T.1 10 10 rfl rfl h_13 dX3_stepDoor_13 ?_
  refine W.eq (g2 := F0 m 14 ls [.int (S x1.toNatClampNeg 9), .int 8, .int (S x1.toNatClampNeg 7)]) rfl ?_
  refine lv_imul hx hb dX3_stepDoor_14 ?_
  refine lv_iadd hx hb dX3_stepDoor_15 ?_
  refine lv_istore_n (lv' := [(2, .int ((S x1.toNatClampNeg 7) + (8 * (S x1.toNatClampNeg 9)))), (0, .ref o), (1, .int x1)]) hx hb dX3_stepDoor_16 rfl hl (by decide) rfl (fun ls hl => ?_)
  refine lv_aload_n hx hb dX3_stepDoor_17 rfl (lv_at hl 1 rfl) ?_
  refine va_get (D := D) (ci := 2) (v := .ref (am 9)) (C := RX3) (T := TX3) (N := 19) hx hb hts hinM hown hK T.1 0 rfl rfl 12 (by decide) (hts _ (List.mem_cons_of_mem _ k3_f38)) (fun _ h9 => h9) rfl dX3_stepDoor_18 ?_
  refine lv_iload_n hx hb dX3_stepDoor_21 rfl (lv_at hl 2 rfl) ?_
  have h_22 : vp_in x1 32 := h1
  refine va_iald hx hb hK T.1 10 10 rfl rfl h_22 dX3_stepDoor_22 ?_
  refine W.eq (g2 := F0 m 23 ls [.int (S x1.toNatClampNeg 9)]) rfl ?_
  refine lv_if_le (tgt := 75) hx hb dX3_stepDoor_23 (by decide) (fun c_23 => ?_) (fun c_23 => ?_)
  · skip
    refine lv_iload_n hx hb dX3_stepDoor_75 rfl (lv_at hl 0 rfl) ?_
    refine lv_aload_n hx hb dX3_stepDoor_76 rfl (lv_at hl 1 rfl) ?_
    refine va_get (D := D) (ci := 2) (v := .ref (am 6)) (C := RX3) (T := TX3) (N := 19) hx hb hts hinM hown hK T.1 0 rfl rfl 9 (by decide) (hts _ (List.mem_cons_of_mem _ k3_f29)) (fun _ h9 => h9) rfl dX3_stepDoor_77 ?_
    refine lv_iload_n hx hb dX3_stepDoor_80 rfl (lv_at hl 2 rfl) ?_
    have h_81 : vp_in x1 32 := h1
    refine va_iald hx hb hK T.1 7 7 rfl rfl h_81 dX3_stepDoor_81 ?_
    refine W.eq (g2 := F0 m 82 ls [.int (S x1.toNatClampNeg 6), .int ((S x1.toNatClampNeg 7) + (8 * (S x1.toNatClampNeg 9)))]) rfl ?_
    refine lv_icmp_ge (tgt := 94) hx hb dX3_stepDoor_82 (by decide) (fun c_82 => ?_) (fun c_82 => ?_)
    · skip
      refine lv_iload_n hx hb dX3_stepDoor_94 rfl (lv_at hl 0 rfl) ?_
      refine lv_istore_n (lv' := [(2, .int ((S x1.toNatClampNeg 7) + (8 * (S x1.toNatClampNeg 9)))), (0, .ref o), (1, .int x1)]) hx hb dX3_stepDoor_95 rfl hl (by decide) rfl (fun ls hl => ?_)
      refine lv_aload_n hx hb dX3_stepDoor_96 rfl (lv_at hl 1 rfl) ?_
      refine va_get (D := D) (ci := 2) (v := .int (G 5)) (C := RX3) (T := TX3) (N := 19) hx hb hts hinM hown hK T.1 0 rfl rfl 17 (by decide) (hts _ (List.mem_cons_of_mem _ k3_f50)) (fun _ h9 => h9) rfl dX3_stepDoor_97 ?_
      refine lv_iload_n hx hb dX3_stepDoor_100 rfl (lv_at hl 2 rfl) ?_
      refine lv_icmp_ne (tgt := 135) hx hb dX3_stepDoor_101 (by decide) (fun c_101 => ?_) (fun c_101 => ?_)
      · skip
        refine lv_aload_n hx hb dX3_stepDoor_135 rfl (lv_at hl 1 rfl) ?_
        refine va_get (D := D) (ci := 2) (v := .ref (am 7)) (C := RX3) (T := TX3) (N := 19) hx hb hts hinM hown hK T.1 0 rfl rfl 10 (by decide) (hts _ (List.mem_cons_of_mem _ k3_f32)) (fun _ h9 => h9) rfl dX3_stepDoor_136 ?_
        refine lv_iload_n hx hb dX3_stepDoor_139 rfl (lv_at hl 2 rfl) ?_
        refine lv_iload_n hx hb dX3_stepDoor_140 rfl (lv_at hl 0 rfl) ?_
        have h_141 : vp_in x1 32 := h1
        refine va_iast (x := (S x1.toNatClampNeg 7) + (8 * (S x1.toNatClampNeg 9))) hx hb hK T.1 T.2.1 T.2.2 8 8 rfl rfl h_141 dX3_stepDoor_141 (fun H locs hP hD hS => ?_)
        have T := md_set7 (i := x1.toNatClampNeg) (v := (S x1.toNatClampNeg 7) + (8 * (S x1.toNatClampNeg 9))) ⟨hP, hD, hS⟩
        refine lv_iload_n hx hb dX3_stepDoor_142 rfl (lv_at hl 0 rfl) ?_
        refine lv_aload_n hx hb dX3_stepDoor_143 rfl (lv_at hl 1 rfl) ?_
        refine va_get (D := D) (ci := 2) (v := .ref (am 6)) (C := RX3) (T := TX3) (N := 19) hx hb hts hinM hown hK T.1 0 rfl rfl 9 (by decide) (hts _ (List.mem_cons_of_mem _ k3_f29)) (fun _ h9 => h9) rfl dX3_stepDoor_144 ?_
        refine lv_iload_n hx hb dX3_stepDoor_147 rfl (lv_at hl 2 rfl) ?_
        have h_148 : vp_in x1 32 := h1
        refine va_iald hx hb hK T.1 7 7 rfl rfl h_148 dX3_stepDoor_148 ?_
        refine W.eq (g2 := F0 m 149 ls [.int ((up2 S x1.toNatClampNeg 7 ((S x1.toNatClampNeg 7) + (8 * (S x1.toNatClampNeg 9)))) x1.toNatClampNeg 6), .int ((S x1.toNatClampNeg 7) + (8 * (S x1.toNatClampNeg 9)))]) rfl ?_
        refine lv_icmp_ne (tgt := 157) hx hb dX3_stepDoor_149 (by decide) (fun c_149 => ?_) (fun c_149 => ?_)
        · skip
          have e9 : sm_stepDoor G S x1 = (G, up2 S x1.toNatClampNeg 7 ((S x1.toNatClampNeg 7) + (8 * (S x1.toNatClampNeg 9)))) := by unfold sm_stepDoor; simp only [if_pos c_23, if_pos c_82, if_neg c_101, if_neg c_149]
          exact hw_vret C T (by rw [e9]) dX3_stepDoor_157
        · skip
          refine lv_aload_n hx hb dX3_stepDoor_152 rfl (lv_at hl 1 rfl) ?_
          refine lv_iload_n hx hb dX3_stepDoor_153 rfl (lv_at hl 2 rfl) ?_
          refine hw_Vv (As := [.int x1]) (rest := []) C T (c_M_end h1) (cwV 1 hts (x3_in k3_m95 k3_i_end k3_s_end k3_ini k3_c_end) rfl rfl rfl (by decide +kernel) ⟨Nat.le_of_ble_eq_true rfl, Nat.le_of_ble_eq_true rfl⟩) md_isO md_ad rfl hl.1 rfl (Nat.le_of_ble_eq_true rfl) dX3_stepDoor_154 ⟨Nat.zero_le _, Nat.zero_le _⟩ (fun H locs T => ?_)
          have e9 : sm_stepDoor G S x1 = (G, sm_end (up2 S x1.toNatClampNeg 7 ((S x1.toNatClampNeg 7) + (8 * (S x1.toNatClampNeg 9)))) x1) := by unfold sm_stepDoor; simp only [if_pos c_23, if_pos c_82, if_neg c_101, if_pos c_149]
          exact hw_vret C T (by rw [e9]) dX3_stepDoor_157
      · skip
        refine lv_iload_n hx hb dX3_stepDoor_104 rfl (lv_at hl 0 rfl) ?_
        refine lv_aload_n hx hb dX3_stepDoor_105 rfl (lv_at hl 1 rfl) ?_
        refine va_get (D := D) (ci := 2) (v := .ref (am 6)) (C := RX3) (T := TX3) (N := 19) hx hb hts hinM hown hK T.1 0 rfl rfl 9 (by decide) (hts _ (List.mem_cons_of_mem _ k3_f29)) (fun _ h9 => h9) rfl dX3_stepDoor_106 ?_
        refine lv_iload_n hx hb dX3_stepDoor_109 rfl (lv_at hl 2 rfl) ?_
        have h_110 : vp_in x1 32 := h1
        refine va_iald hx hb hK T.1 7 7 rfl rfl h_110 dX3_stepDoor_110 ?_
        refine W.eq (g2 := F0 m 111 ls [.int (S x1.toNatClampNeg 6), .int ((S x1.toNatClampNeg 7) + (8 * (S x1.toNatClampNeg 9)))]) rfl ?_
        refine lv_isub hx hb dX3_stepDoor_111 ?_
        refine lv_bipush (v := 56) hx hb dX3_stepDoor_112 (by decide) ?_
        refine lv_icmp_ge (tgt := 135) hx hb dX3_stepDoor_114 (by decide) (fun c_114 => ?_) (fun c_114 => ?_)
        · skip
          refine lv_aload_n hx hb dX3_stepDoor_135 rfl (lv_at hl 1 rfl) ?_
          refine va_get (D := D) (ci := 2) (v := .ref (am 7)) (C := RX3) (T := TX3) (N := 19) hx hb hts hinM hown hK T.1 0 rfl rfl 10 (by decide) (hts _ (List.mem_cons_of_mem _ k3_f32)) (fun _ h9 => h9) rfl dX3_stepDoor_136 ?_
          refine lv_iload_n hx hb dX3_stepDoor_139 rfl (lv_at hl 2 rfl) ?_
          refine lv_iload_n hx hb dX3_stepDoor_140 rfl (lv_at hl 0 rfl) ?_
          have h_141 : vp_in x1 32 := h1
          refine va_iast (x := (S x1.toNatClampNeg 7) + (8 * (S x1.toNatClampNeg 9))) hx hb hK T.1 T.2.1 T.2.2 8 8 rfl rfl h_141 dX3_stepDoor_141 (fun H locs hP hD hS => ?_)
          have T := md_set7 (i := x1.toNatClampNeg) (v := (S x1.toNatClampNeg 7) + (8 * (S x1.toNatClampNeg 9))) ⟨hP, hD, hS⟩
          refine lv_iload_n hx hb dX3_stepDoor_142 rfl (lv_at hl 0 rfl) ?_
          refine lv_aload_n hx hb dX3_stepDoor_143 rfl (lv_at hl 1 rfl) ?_
          refine va_get (D := D) (ci := 2) (v := .ref (am 6)) (C := RX3) (T := TX3) (N := 19) hx hb hts hinM hown hK T.1 0 rfl rfl 9 (by decide) (hts _ (List.mem_cons_of_mem _ k3_f29)) (fun _ h9 => h9) rfl dX3_stepDoor_144 ?_
          refine lv_iload_n hx hb dX3_stepDoor_147 rfl (lv_at hl 2 rfl) ?_
          have h_148 : vp_in x1 32 := h1
          refine va_iald hx hb hK T.1 7 7 rfl rfl h_148 dX3_stepDoor_148 ?_
          refine W.eq (g2 := F0 m 149 ls [.int ((up2 S x1.toNatClampNeg 7 ((S x1.toNatClampNeg 7) + (8 * (S x1.toNatClampNeg 9)))) x1.toNatClampNeg 6), .int ((S x1.toNatClampNeg 7) + (8 * (S x1.toNatClampNeg 9)))]) rfl ?_
          refine lv_icmp_ne (tgt := 157) hx hb dX3_stepDoor_149 (by decide) (fun c_149 => ?_) (fun c_149 => ?_)
          · skip
            have e9 : sm_stepDoor G S x1 = (G, up2 S x1.toNatClampNeg 7 ((S x1.toNatClampNeg 7) + (8 * (S x1.toNatClampNeg 9)))) := by unfold sm_stepDoor; simp only [if_pos c_23, if_pos c_82, if_pos c_101, if_pos c_114, if_neg c_149]
            exact hw_vret C T (by rw [e9]) dX3_stepDoor_157
          · skip
            refine lv_aload_n hx hb dX3_stepDoor_152 rfl (lv_at hl 1 rfl) ?_
            refine lv_iload_n hx hb dX3_stepDoor_153 rfl (lv_at hl 2 rfl) ?_
            refine hw_Vv (As := [.int x1]) (rest := []) C T (c_M_end h1) (cwV 1 hts (x3_in k3_m95 k3_i_end k3_s_end k3_ini k3_c_end) rfl rfl rfl (by decide +kernel) ⟨Nat.le_of_ble_eq_true rfl, Nat.le_of_ble_eq_true rfl⟩) md_isO md_ad rfl hl.1 rfl (Nat.le_of_ble_eq_true rfl) dX3_stepDoor_154 ⟨Nat.zero_le _, Nat.zero_le _⟩ (fun H locs T => ?_)
            have e9 : sm_stepDoor G S x1 = (G, sm_end (up2 S x1.toNatClampNeg 7 ((S x1.toNatClampNeg 7) + (8 * (S x1.toNatClampNeg 9)))) x1) := by unfold sm_stepDoor; simp only [if_pos c_23, if_pos c_82, if_pos c_101, if_pos c_114, if_pos c_149]
            exact hw_vret C T (by rw [e9]) dX3_stepDoor_157
        · skip
          refine lv_aload_n hx hb dX3_stepDoor_117 rfl (lv_at hl 1 rfl) ?_
          refine lv_dup hx hb dX3_stepDoor_118 rfl ?_
          refine va_get (D := D) (ci := 2) (v := .int (G 4)) (C := RX3) (T := TX3) (N := 19) hx hb hts hinM hown hK T.1 0 rfl rfl 18 (by decide) (hts _ (List.mem_cons_of_mem _ k3_f73)) (fun _ h9 => h9) rfl dX3_stepDoor_119 ?_
          refine lv_iconst (v := 1) hx hb dX3_stepDoor_122 (by decide) ?_
          refine lv_iadd hx hb dX3_stepDoor_123 ?_
          refine va_put (D := D) (ci := 2) (v := .int ((G 4) + 1)) (ty := .int) (C := RX3) (T := TX3) (N := 19) hx hb hts hinM tyX3 tyX3_ok nmX3 hown hK T.1 T.2.1 T.2.2 0 rfl rfl 18 (by decide) (hts _ (List.mem_cons_of_mem _ k3_f73)) (fun _ h9 => h9) rfl (by decide +kernel) rfl rfl (Nat.le_of_ble_eq_true rfl) dX3_stepDoor_124 (fun H locs hP hD hS => ?_)
          have T := md_setG (k := 4) (v := (G 4) + 1) (kk := 18) rfl ⟨hP, hD, hS⟩
          refine lv_aload_n hx hb dX3_stepDoor_127 rfl (lv_at hl 1 rfl) ?_
          refine va_get (D := D) (ci := 2) (v := .ref (am 9)) (C := RX3) (T := TX3) (N := 19) hx hb hts hinM hown hK T.1 0 rfl rfl 12 (by decide) (hts _ (List.mem_cons_of_mem _ k3_f38)) (fun _ h9 => h9) rfl dX3_stepDoor_128 ?_
          refine lv_iload_n hx hb dX3_stepDoor_131 rfl (lv_at hl 2 rfl) ?_
          refine lv_iconst (v := 1) hx hb dX3_stepDoor_132 (by decide) ?_
          have h_133 : vp_in x1 32 := h1
          refine va_iast (x := 1) hx hb hK T.1 T.2.1 T.2.2 10 10 rfl rfl h_133 dX3_stepDoor_133 (fun H locs hP hD hS => ?_)
          have T := md_set9 (i := x1.toNatClampNeg) (v := 1) ⟨hP, hD, hS⟩
          have e9 : sm_stepDoor G S x1 = (upd G 4 ((G 4) + 1), up2 S x1.toNatClampNeg 9 1) := by unfold sm_stepDoor; simp only [if_pos c_23, if_pos c_82, if_pos c_101, if_neg c_114]
          exact hw_vret C T (by rw [e9]) dX3_stepDoor_134
    · skip
      refine lv_aload_n hx hb dX3_stepDoor_85 rfl (lv_at hl 1 rfl) ?_
      refine va_get (D := D) (ci := 2) (v := .ref (am 6)) (C := RX3) (T := TX3) (N := 19) hx hb hts hinM hown hK T.1 0 rfl rfl 9 (by decide) (hts _ (List.mem_cons_of_mem _ k3_f29)) (fun _ h9 => h9) rfl dX3_stepDoor_86 ?_
      refine lv_iload_n hx hb dX3_stepDoor_89 rfl (lv_at hl 2 rfl) ?_
      have h_90 : vp_in x1 32 := h1
      refine va_iald hx hb hK T.1 7 7 rfl rfl h_90 dX3_stepDoor_90 ?_
      refine W.eq (g2 := F0 m 91 ls [.int (S x1.toNatClampNeg 6)]) rfl ?_
      refine lv_goto (tgt := 95) hx hb dX3_stepDoor_91 (by decide) ?_
      refine lv_istore_n (lv' := [(2, .int (S x1.toNatClampNeg 6)), (0, .ref o), (1, .int x1)]) hx hb dX3_stepDoor_95 rfl hl (by decide) rfl (fun ls hl => ?_)
      refine lv_aload_n hx hb dX3_stepDoor_96 rfl (lv_at hl 1 rfl) ?_
      refine va_get (D := D) (ci := 2) (v := .int (G 5)) (C := RX3) (T := TX3) (N := 19) hx hb hts hinM hown hK T.1 0 rfl rfl 17 (by decide) (hts _ (List.mem_cons_of_mem _ k3_f50)) (fun _ h9 => h9) rfl dX3_stepDoor_97 ?_
      refine lv_iload_n hx hb dX3_stepDoor_100 rfl (lv_at hl 2 rfl) ?_
      refine lv_icmp_ne (tgt := 135) hx hb dX3_stepDoor_101 (by decide) (fun c_101 => ?_) (fun c_101 => ?_)
      · skip
        refine lv_aload_n hx hb dX3_stepDoor_135 rfl (lv_at hl 1 rfl) ?_
        refine va_get (D := D) (ci := 2) (v := .ref (am 7)) (C := RX3) (T := TX3) (N := 19) hx hb hts hinM hown hK T.1 0 rfl rfl 10 (by decide) (hts _ (List.mem_cons_of_mem _ k3_f32)) (fun _ h9 => h9) rfl dX3_stepDoor_136 ?_
        refine lv_iload_n hx hb dX3_stepDoor_139 rfl (lv_at hl 2 rfl) ?_
        refine lv_iload_n hx hb dX3_stepDoor_140 rfl (lv_at hl 0 rfl) ?_
        have h_141 : vp_in x1 32 := h1
        refine va_iast (x := S x1.toNatClampNeg 6) hx hb hK T.1 T.2.1 T.2.2 8 8 rfl rfl h_141 dX3_stepDoor_141 (fun H locs hP hD hS => ?_)
        have T := md_set7 (i := x1.toNatClampNeg) (v := S x1.toNatClampNeg 6) ⟨hP, hD, hS⟩
        refine lv_iload_n hx hb dX3_stepDoor_142 rfl (lv_at hl 0 rfl) ?_
        refine lv_aload_n hx hb dX3_stepDoor_143 rfl (lv_at hl 1 rfl) ?_
        refine va_get (D := D) (ci := 2) (v := .ref (am 6)) (C := RX3) (T := TX3) (N := 19) hx hb hts hinM hown hK T.1 0 rfl rfl 9 (by decide) (hts _ (List.mem_cons_of_mem _ k3_f29)) (fun _ h9 => h9) rfl dX3_stepDoor_144 ?_
        refine lv_iload_n hx hb dX3_stepDoor_147 rfl (lv_at hl 2 rfl) ?_
        have h_148 : vp_in x1 32 := h1
        refine va_iald hx hb hK T.1 7 7 rfl rfl h_148 dX3_stepDoor_148 ?_
        refine W.eq (g2 := F0 m 149 ls [.int ((up2 S x1.toNatClampNeg 7 (S x1.toNatClampNeg 6)) x1.toNatClampNeg 6), .int (S x1.toNatClampNeg 6)]) rfl ?_
        refine lv_icmp_ne (tgt := 157) hx hb dX3_stepDoor_149 (by decide) (fun c_149 => ?_) (fun c_149 => ?_)
        · skip
          have e9 : sm_stepDoor G S x1 = (G, up2 S x1.toNatClampNeg 7 (S x1.toNatClampNeg 6)) := by unfold sm_stepDoor; simp only [if_pos c_23, if_neg c_82, if_neg c_101, if_neg c_149]
          exact hw_vret C T (by rw [e9]) dX3_stepDoor_157
        · skip
          refine lv_aload_n hx hb dX3_stepDoor_152 rfl (lv_at hl 1 rfl) ?_
          refine lv_iload_n hx hb dX3_stepDoor_153 rfl (lv_at hl 2 rfl) ?_
          refine hw_Vv (As := [.int x1]) (rest := []) C T (c_M_end h1) (cwV 1 hts (x3_in k3_m95 k3_i_end k3_s_end k3_ini k3_c_end) rfl rfl rfl (by decide +kernel) ⟨Nat.le_of_ble_eq_true rfl, Nat.le_of_ble_eq_true rfl⟩) md_isO md_ad rfl hl.1 rfl (Nat.le_of_ble_eq_true rfl) dX3_stepDoor_154 ⟨Nat.zero_le _, Nat.zero_le _⟩ (fun H locs T => ?_)
          have e9 : sm_stepDoor G S x1 = (G, sm_end (up2 S x1.toNatClampNeg 7 (S x1.toNatClampNeg 6)) x1) := by unfold sm_stepDoor; simp only [if_pos c_23, if_neg c_82, if_neg c_101, if_pos c_149]
          exact hw_vret C T (by rw [e9]) dX3_stepDoor_157
      · skip
        refine lv_iload_n hx hb dX3_stepDoor_104 rfl (lv_at hl 0 rfl) ?_
        refine lv_aload_n hx hb dX3_stepDoor_105 rfl (lv_at hl 1 rfl) ?_
        refine va_get (D := D) (ci := 2) (v := .ref (am 6)) (C := RX3) (T := TX3) (N := 19) hx hb hts hinM hown hK T.1 0 rfl rfl 9 (by decide) (hts _ (List.mem_cons_of_mem _ k3_f29)) (fun _ h9 => h9) rfl dX3_stepDoor_106 ?_
        refine lv_iload_n hx hb dX3_stepDoor_109 rfl (lv_at hl 2 rfl) ?_
        have h_110 : vp_in x1 32 := h1
        refine va_iald hx hb hK T.1 7 7 rfl rfl h_110 dX3_stepDoor_110 ?_
        refine W.eq (g2 := F0 m 111 ls [.int (S x1.toNatClampNeg 6), .int (S x1.toNatClampNeg 6)]) rfl ?_
        refine lv_isub hx hb dX3_stepDoor_111 ?_
        refine lv_bipush (v := 56) hx hb dX3_stepDoor_112 (by decide) ?_
        refine lv_icmp_ge (tgt := 135) hx hb dX3_stepDoor_114 (by decide) (fun c_114 => ?_) (fun c_114 => ?_)
        · skip
          refine lv_aload_n hx hb dX3_stepDoor_135 rfl (lv_at hl 1 rfl) ?_
          refine va_get (D := D) (ci := 2) (v := .ref (am 7)) (C := RX3) (T := TX3) (N := 19) hx hb hts hinM hown hK T.1 0 rfl rfl 10 (by decide) (hts _ (List.mem_cons_of_mem _ k3_f32)) (fun _ h9 => h9) rfl dX3_stepDoor_136 ?_
          refine lv_iload_n hx hb dX3_stepDoor_139 rfl (lv_at hl 2 rfl) ?_
          refine lv_iload_n hx hb dX3_stepDoor_140 rfl (lv_at hl 0 rfl) ?_
          have h_141 : vp_in x1 32 := h1
          refine va_iast (x := S x1.toNatClampNeg 6) hx hb hK T.1 T.2.1 T.2.2 8 8 rfl rfl h_141 dX3_stepDoor_141 (fun H locs hP hD hS => ?_)
          have T := md_set7 (i := x1.toNatClampNeg) (v := S x1.toNatClampNeg 6) ⟨hP, hD, hS⟩
          refine lv_iload_n hx hb dX3_stepDoor_142 rfl (lv_at hl 0 rfl) ?_
          refine lv_aload_n hx hb dX3_stepDoor_143 rfl (lv_at hl 1 rfl) ?_
          refine va_get (D := D) (ci := 2) (v := .ref (am 6)) (C := RX3) (T := TX3) (N := 19) hx hb hts hinM hown hK T.1 0 rfl rfl 9 (by decide) (hts _ (List.mem_cons_of_mem _ k3_f29)) (fun _ h9 => h9) rfl dX3_stepDoor_144 ?_
          refine lv_iload_n hx hb dX3_stepDoor_147 rfl (lv_at hl 2 rfl) ?_
          have h_148 : vp_in x1 32 := h1
          refine va_iald hx hb hK T.1 7 7 rfl rfl h_148 dX3_stepDoor_148 ?_
          refine W.eq (g2 := F0 m 149 ls [.int ((up2 S x1.toNatClampNeg 7 (S x1.toNatClampNeg 6)) x1.toNatClampNeg 6), .int (S x1.toNatClampNeg 6)]) rfl ?_
          refine lv_icmp_ne (tgt := 157) hx hb dX3_stepDoor_149 (by decide) (fun c_149 => ?_) (fun c_149 => ?_)
          · skip
            have e9 : sm_stepDoor G S x1 = (G, up2 S x1.toNatClampNeg 7 (S x1.toNatClampNeg 6)) := by unfold sm_stepDoor; simp only [if_pos c_23, if_neg c_82, if_pos c_101, if_pos c_114, if_neg c_149]
            exact hw_vret C T (by rw [e9]) dX3_stepDoor_157
          · skip
            refine lv_aload_n hx hb dX3_stepDoor_152 rfl (lv_at hl 1 rfl) ?_
            refine lv_iload_n hx hb dX3_stepDoor_153 rfl (lv_at hl 2 rfl) ?_
            refine hw_Vv (As := [.int x1]) (rest := []) C T (c_M_end h1) (cwV 1 hts (x3_in k3_m95 k3_i_end k3_s_end k3_ini k3_c_end) rfl rfl rfl (by decide +kernel) ⟨Nat.le_of_ble_eq_true rfl, Nat.le_of_ble_eq_true rfl⟩) md_isO md_ad rfl hl.1 rfl (Nat.le_of_ble_eq_true rfl) dX3_stepDoor_154 ⟨Nat.zero_le _, Nat.zero_le _⟩ (fun H locs T => ?_)
            have e9 : sm_stepDoor G S x1 = (G, sm_end (up2 S x1.toNatClampNeg 7 (S x1.toNatClampNeg 6)) x1) := by unfold sm_stepDoor; simp only [if_pos c_23, if_neg c_82, if_pos c_101, if_pos c_114, if_pos c_149]
            exact hw_vret C T (by rw [e9]) dX3_stepDoor_157
        · skip
          refine lv_aload_n hx hb dX3_stepDoor_117 rfl (lv_at hl 1 rfl) ?_
          refine lv_dup hx hb dX3_stepDoor_118 rfl ?_
          refine va_get (D := D) (ci := 2) (v := .int (G 4)) (C := RX3) (T := TX3) (N := 19) hx hb hts hinM hown hK T.1 0 rfl rfl 18 (by decide) (hts _ (List.mem_cons_of_mem _ k3_f73)) (fun _ h9 => h9) rfl dX3_stepDoor_119 ?_
          refine lv_iconst (v := 1) hx hb dX3_stepDoor_122 (by decide) ?_
          refine lv_iadd hx hb dX3_stepDoor_123 ?_
          refine va_put (D := D) (ci := 2) (v := .int ((G 4) + 1)) (ty := .int) (C := RX3) (T := TX3) (N := 19) hx hb hts hinM tyX3 tyX3_ok nmX3 hown hK T.1 T.2.1 T.2.2 0 rfl rfl 18 (by decide) (hts _ (List.mem_cons_of_mem _ k3_f73)) (fun _ h9 => h9) rfl (by decide +kernel) rfl rfl (Nat.le_of_ble_eq_true rfl) dX3_stepDoor_124 (fun H locs hP hD hS => ?_)
          have T := md_setG (k := 4) (v := (G 4) + 1) (kk := 18) rfl ⟨hP, hD, hS⟩
          refine lv_aload_n hx hb dX3_stepDoor_127 rfl (lv_at hl 1 rfl) ?_
          refine va_get (D := D) (ci := 2) (v := .ref (am 9)) (C := RX3) (T := TX3) (N := 19) hx hb hts hinM hown hK T.1 0 rfl rfl 12 (by decide) (hts _ (List.mem_cons_of_mem _ k3_f38)) (fun _ h9 => h9) rfl dX3_stepDoor_128 ?_
          refine lv_iload_n hx hb dX3_stepDoor_131 rfl (lv_at hl 2 rfl) ?_
          refine lv_iconst (v := 1) hx hb dX3_stepDoor_132 (by decide) ?_
          have h_133 : vp_in x1 32 := h1
          refine va_iast (x := 1) hx hb hK T.1 T.2.1 T.2.2 10 10 rfl rfl h_133 dX3_stepDoor_133 (fun H locs hP hD hS => ?_)
          have T := md_set9 (i := x1.toNatClampNeg) (v := 1) ⟨hP, hD, hS⟩
          have e9 : sm_stepDoor G S x1 = (upd G 4 ((G 4) + 1), up2 S x1.toNatClampNeg 9 1) := by unfold sm_stepDoor; simp only [if_pos c_23, if_neg c_82, if_pos c_101, if_neg c_114]
          exact hw_vret C T (by rw [e9]) dX3_stepDoor_134
  · skip
    refine lv_aload_n hx hb dX3_stepDoor_26 rfl (lv_at hl 1 rfl) ?_
    refine va_get (D := D) (ci := 2) (v := .ref (am 7)) (C := RX3) (T := TX3) (N := 19) hx hb hts hinM hown hK T.1 0 rfl rfl 10 (by decide) (hts _ (List.mem_cons_of_mem _ k3_f32)) (fun _ h9 => h9) rfl dX3_stepDoor_27 ?_
    refine lv_iload_n hx hb dX3_stepDoor_30 rfl (lv_at hl 2 rfl) ?_
    refine lv_iload_n hx hb dX3_stepDoor_31 rfl (lv_at hl 0 rfl) ?_
    refine lv_aload_n hx hb dX3_stepDoor_32 rfl (lv_at hl 1 rfl) ?_
    refine va_get (D := D) (ci := 2) (v := .ref (am 11)) (C := RX3) (T := TX3) (N := 19) hx hb hts hinM hown hK T.1 0 rfl rfl 14 (by decide) (hts _ (List.mem_cons_of_mem _ k3_f44)) (fun _ h9 => h9) rfl dX3_stepDoor_33 ?_
    refine lv_iload_n hx hb dX3_stepDoor_36 rfl (lv_at hl 2 rfl) ?_
    have h_37 : vp_in x1 32 := h1
    refine va_iald hx hb hK T.1 12 12 rfl rfl h_37 dX3_stepDoor_37 ?_
    refine W.eq (g2 := F0 m 38 ls [.int (S x1.toNatClampNeg 11), .int ((S x1.toNatClampNeg 7) + (8 * (S x1.toNatClampNeg 9))), .int x1, .ref (am 7)]) rfl ?_
    refine lv_icmp_le (tgt := 50) hx hb dX3_stepDoor_38 (by decide) (fun c_38 => ?_) (fun c_38 => ?_)
    · skip
      refine lv_iload_n hx hb dX3_stepDoor_50 rfl (lv_at hl 0 rfl) ?_
      have h_51 : vp_in x1 32 := h1
      refine va_iast (x := (S x1.toNatClampNeg 7) + (8 * (S x1.toNatClampNeg 9))) hx hb hK T.1 T.2.1 T.2.2 8 8 rfl rfl h_51 dX3_stepDoor_51 (fun H locs hP hD hS => ?_)
      have T := md_set7 (i := x1.toNatClampNeg) (v := (S x1.toNatClampNeg 7) + (8 * (S x1.toNatClampNeg 9))) ⟨hP, hD, hS⟩
      refine lv_aload_n hx hb dX3_stepDoor_52 rfl (lv_at hl 1 rfl) ?_
      refine va_get (D := D) (ci := 2) (v := .ref (am 7)) (C := RX3) (T := TX3) (N := 19) hx hb hts hinM hown hK T.1 0 rfl rfl 10 (by decide) (hts _ (List.mem_cons_of_mem _ k3_f32)) (fun _ h9 => h9) rfl dX3_stepDoor_53 ?_
      refine lv_iload_n hx hb dX3_stepDoor_56 rfl (lv_at hl 2 rfl) ?_
      have h_57 : vp_in x1 32 := h1
      refine va_iald hx hb hK T.1 8 8 rfl rfl h_57 dX3_stepDoor_57 ?_
      refine W.eq (g2 := F0 m 58 ls [.int ((up2 S x1.toNatClampNeg 7 ((S x1.toNatClampNeg 7) + (8 * (S x1.toNatClampNeg 9)))) x1.toNatClampNeg 7)]) rfl ?_
      refine lv_aload_n hx hb dX3_stepDoor_58 rfl (lv_at hl 1 rfl) ?_
      refine va_get (D := D) (ci := 2) (v := .ref (am 11)) (C := RX3) (T := TX3) (N := 19) hx hb hts hinM hown hK T.1 0 rfl rfl 14 (by decide) (hts _ (List.mem_cons_of_mem _ k3_f44)) (fun _ h9 => h9) rfl dX3_stepDoor_59 ?_
      refine lv_iload_n hx hb dX3_stepDoor_62 rfl (lv_at hl 2 rfl) ?_
      have h_63 : vp_in x1 32 := h1
      refine va_iald hx hb hK T.1 12 12 rfl rfl h_63 dX3_stepDoor_63 ?_
      refine W.eq (g2 := F0 m 64 ls [.int ((up2 S x1.toNatClampNeg 7 ((S x1.toNatClampNeg 7) + (8 * (S x1.toNatClampNeg 9)))) x1.toNatClampNeg 11), .int ((up2 S x1.toNatClampNeg 7 ((S x1.toNatClampNeg 7) + (8 * (S x1.toNatClampNeg 9)))) x1.toNatClampNeg 7)]) rfl ?_
      refine lv_icmp_ne (tgt := 74) hx hb dX3_stepDoor_64 (by decide) (fun c_64 => ?_) (fun c_64 => ?_)
      · skip
        have e9 : sm_stepDoor G S x1 = (G, up2 S x1.toNatClampNeg 7 ((S x1.toNatClampNeg 7) + (8 * (S x1.toNatClampNeg 9)))) := by unfold sm_stepDoor; simp only [if_neg c_23, if_pos c_38, if_neg c_64]
        exact hw_vret C T (by rw [e9]) dX3_stepDoor_74
      · skip
        refine lv_aload_n hx hb dX3_stepDoor_67 rfl (lv_at hl 1 rfl) ?_
        refine lv_iload_n hx hb dX3_stepDoor_68 rfl (lv_at hl 2 rfl) ?_
        refine lv_bipush (v := 20) hx hb dX3_stepDoor_69 (by decide) ?_
        refine hw_Vv (As := [.int x1, .int 20]) (rest := []) C T (c_M_await h1) (cwV 2 hts (x3_in k3_m91 k3_i_await k3_s_await k3_ini k3_c_await) rfl rfl rfl (by decide +kernel) ⟨Nat.le_of_ble_eq_true rfl, Nat.le_of_ble_eq_true rfl⟩) md_isO md_ad rfl hl.1 rfl (Nat.le_of_ble_eq_true rfl) dX3_stepDoor_71 ⟨Nat.zero_le _, Nat.zero_le _⟩ (fun H locs T => ?_)
        have e9 : sm_stepDoor G S x1 = (G, sm_await (up2 S x1.toNatClampNeg 7 ((S x1.toNatClampNeg 7) + (8 * (S x1.toNatClampNeg 9)))) x1 20) := by unfold sm_stepDoor; simp only [if_neg c_23, if_pos c_38, if_pos c_64]
        exact hw_vret C T (by rw [e9]) dX3_stepDoor_74
    · skip
      refine lv_aload_n hx hb dX3_stepDoor_41 rfl (lv_at hl 1 rfl) ?_
      refine va_get (D := D) (ci := 2) (v := .ref (am 11)) (C := RX3) (T := TX3) (N := 19) hx hb hts hinM hown hK T.1 0 rfl rfl 14 (by decide) (hts _ (List.mem_cons_of_mem _ k3_f44)) (fun _ h9 => h9) rfl dX3_stepDoor_42 ?_
      refine lv_iload_n hx hb dX3_stepDoor_45 rfl (lv_at hl 2 rfl) ?_
      have h_46 : vp_in x1 32 := h1
      refine va_iald hx hb hK T.1 12 12 rfl rfl h_46 dX3_stepDoor_46 ?_
      refine W.eq (g2 := F0 m 47 ls [.int (S x1.toNatClampNeg 11), .int x1, .ref (am 7)]) rfl ?_
      refine lv_goto (tgt := 51) hx hb dX3_stepDoor_47 (by decide) ?_
      have h_51 : vp_in x1 32 := h1
      refine va_iast (x := S x1.toNatClampNeg 11) hx hb hK T.1 T.2.1 T.2.2 8 8 rfl rfl h_51 dX3_stepDoor_51 (fun H locs hP hD hS => ?_)
      have T := md_set7 (i := x1.toNatClampNeg) (v := S x1.toNatClampNeg 11) ⟨hP, hD, hS⟩
      refine lv_aload_n hx hb dX3_stepDoor_52 rfl (lv_at hl 1 rfl) ?_
      refine va_get (D := D) (ci := 2) (v := .ref (am 7)) (C := RX3) (T := TX3) (N := 19) hx hb hts hinM hown hK T.1 0 rfl rfl 10 (by decide) (hts _ (List.mem_cons_of_mem _ k3_f32)) (fun _ h9 => h9) rfl dX3_stepDoor_53 ?_
      refine lv_iload_n hx hb dX3_stepDoor_56 rfl (lv_at hl 2 rfl) ?_
      have h_57 : vp_in x1 32 := h1
      refine va_iald hx hb hK T.1 8 8 rfl rfl h_57 dX3_stepDoor_57 ?_
      refine W.eq (g2 := F0 m 58 ls [.int ((up2 S x1.toNatClampNeg 7 (S x1.toNatClampNeg 11)) x1.toNatClampNeg 7)]) rfl ?_
      refine lv_aload_n hx hb dX3_stepDoor_58 rfl (lv_at hl 1 rfl) ?_
      refine va_get (D := D) (ci := 2) (v := .ref (am 11)) (C := RX3) (T := TX3) (N := 19) hx hb hts hinM hown hK T.1 0 rfl rfl 14 (by decide) (hts _ (List.mem_cons_of_mem _ k3_f44)) (fun _ h9 => h9) rfl dX3_stepDoor_59 ?_
      refine lv_iload_n hx hb dX3_stepDoor_62 rfl (lv_at hl 2 rfl) ?_
      have h_63 : vp_in x1 32 := h1
      refine va_iald hx hb hK T.1 12 12 rfl rfl h_63 dX3_stepDoor_63 ?_
      refine W.eq (g2 := F0 m 64 ls [.int ((up2 S x1.toNatClampNeg 7 (S x1.toNatClampNeg 11)) x1.toNatClampNeg 11), .int ((up2 S x1.toNatClampNeg 7 (S x1.toNatClampNeg 11)) x1.toNatClampNeg 7)]) rfl ?_
      refine lv_icmp_ne (tgt := 74) hx hb dX3_stepDoor_64 (by decide) (fun c_64 => ?_) (fun c_64 => ?_)
      · skip
        have e9 : sm_stepDoor G S x1 = (G, up2 S x1.toNatClampNeg 7 (S x1.toNatClampNeg 11)) := by unfold sm_stepDoor; simp only [if_neg c_23, if_neg c_38, if_neg c_64]
        exact hw_vret C T (by rw [e9]) dX3_stepDoor_74
      · skip
        refine lv_aload_n hx hb dX3_stepDoor_67 rfl (lv_at hl 1 rfl) ?_
        refine lv_iload_n hx hb dX3_stepDoor_68 rfl (lv_at hl 2 rfl) ?_
        refine lv_bipush (v := 20) hx hb dX3_stepDoor_69 (by decide) ?_
        refine hw_Vv (As := [.int x1, .int 20]) (rest := []) C T (c_M_await h1) (cwV 2 hts (x3_in k3_m91 k3_i_await k3_s_await k3_ini k3_c_await) rfl rfl rfl (by decide +kernel) ⟨Nat.le_of_ble_eq_true rfl, Nat.le_of_ble_eq_true rfl⟩) md_isO md_ad rfl hl.1 rfl (Nat.le_of_ble_eq_true rfl) dX3_stepDoor_71 ⟨Nat.zero_le _, Nat.zero_le _⟩ (fun H locs T => ?_)
        have e9 : sm_stepDoor G S x1 = (G, sm_await (up2 S x1.toNatClampNeg 7 (S x1.toNatClampNeg 11)) x1 20) := by unfold sm_stepDoor; simp only [if_neg c_23, if_neg c_38, if_pos c_64]
        exact hw_vret C T (by rw [e9]) dX3_stepDoor_74
/-- rise, its picture -/
def sm_rise (G : Nat → Int32) (S : Nat → Nat → Int32) (x1 : Int32) (x2 : Int32) (x3 : Int32) : (Nat → Int32) × (Nat → Nat → Int32) := if ((S x1.toNatClampNeg 6) + x2) ≤ x3 then (if (G 5) = x1 then (if 56 ≤ ((S x1.toNatClampNeg 7) - ((S x1.toNatClampNeg 6) + x2)) then (if ((S x1.toNatClampNeg 6) + x2) = x3 then (G, sm_end (up2 S x1.toNatClampNeg 6 ((S x1.toNatClampNeg 6) + x2)) x1) else (G, up2 S x1.toNatClampNeg 6 ((S x1.toNatClampNeg 6) + x2))) else (upd G 4 ((G 4) + 1), S)) else (if ((S x1.toNatClampNeg 6) + x2) = x3 then (G, sm_end (up2 S x1.toNatClampNeg 6 ((S x1.toNatClampNeg 6) + x2)) x1) else (G, up2 S x1.toNatClampNeg 6 ((S x1.toNatClampNeg 6) + x2)))) else (if (G 5) = x1 then (if 56 ≤ ((S x1.toNatClampNeg 7) - x3) then (G, sm_end (up2 S x1.toNatClampNeg 6 x3) x1) else (upd G 4 ((G 4) + 1), S)) else (G, sm_end (up2 S x1.toNatClampNeg 6 x3) x1))
theorem sm_rise_0 {G : Nat → Int32} {S : Nat → Nat → Int32} {x1 : Int32} {x2 : Int32} {x3 : Int32} : (sm_rise G S x1 x2 x3).1 0 = G 0 := by
  unfold sm_rise
  repeat' split
  all_goals rfl
set_option maxHeartbeats 4000000 in
set_option maxRecDepth 100000 in
theorem c_M_rise {x1 : Int32} {x2 : Int32} {x3 : Int32} (h1 : vp_in x1 32) : MV l D (t0 :: md_tys cm) yX3_rise wsX3_rise { frames := 1, cells := 0, slots := 0, locals := 21 } [.ref o, .int x1, .int x2, .int x3] (md_W o am cm G S B) (md_W o am cm (sm_rise G S x1 x2 x3).1 (sm_rise G S x1 x2 x3).2 B) := by
  refine MV.start (cc := cX3_rise) (maxL := 5) (by decide) rfl (Nat.le_of_ble_eq_true rfl) (fun p e s m args below meth c A ls C T hl => ?_)
  have hx := C.1.1
  have hb := C.1.2.1
  have hml := C.1.2.2.1
  have hown : s.vm.findClass RX3 = some m.cls := C.1.2.2.2.1
  have hts := C.1.2.2.2.2
  have hK := C.2.2.2.1
  have hinM : ∀ w ∈ wsX30, w ∈ wsX3_rise := fun w h => List.mem_cons_of_mem _ (inX3 w h)
  have hl : lv_has ls 5 [(0, .ref o), (1, .int x1), (2, .int x2), (3, .int x3)] := hl
  refine lv_aload_n hx hb dX3_rise_0 rfl (lv_at hl 0 rfl) ?_
  refine va_get (D := D) (ci := 2) (v := .ref (am 6)) (C := RX3) (T := TX3) (N := 19) hx hb hts hinM hown hK T.1 0 rfl rfl 9 (by decide) (hts _ (List.mem_cons_of_mem _ k3_f29)) (fun _ h9 => h9) rfl dX3_rise_1 ?_
  refine lv_iload_n hx hb dX3_rise_4 rfl (lv_at hl 1 rfl) ?_
  have h_5 : vp_in x1 32 := h1
  refine va_iald hx hb hK T.1 7 7 rfl rfl h_5 dX3_rise_5 ?_
  refine W.eq (g2 := F0 m 6 ls [.int (S x1.toNatClampNeg 6)]) rfl ?_
  refine lv_iload_n hx hb dX3_rise_6 rfl (lv_at hl 2 rfl) ?_
  refine lv_iadd hx hb dX3_rise_7 ?_
  refine lv_iload_n hx hb dX3_rise_8 rfl (lv_at hl 3 rfl) ?_
  refine lv_icmp_le (tgt := 16) hx hb dX3_rise_9 (by decide) (fun c_9 => ?_) (fun c_9 => ?_)
  · skip
    refine lv_aload_n hx hb dX3_rise_16 rfl (lv_at hl 0 rfl) ?_
    refine va_get (D := D) (ci := 2) (v := .ref (am 6)) (C := RX3) (T := TX3) (N := 19) hx hb hts hinM hown hK T.1 0 rfl rfl 9 (by decide) (hts _ (List.mem_cons_of_mem _ k3_f29)) (fun _ h9 => h9) rfl dX3_rise_17 ?_
    refine lv_iload_n hx hb dX3_rise_20 rfl (lv_at hl 1 rfl) ?_
    have h_21 : vp_in x1 32 := h1
    refine va_iald hx hb hK T.1 7 7 rfl rfl h_21 dX3_rise_21 ?_
    refine W.eq (g2 := F0 m 22 ls [.int (S x1.toNatClampNeg 6)]) rfl ?_
    refine lv_iload_n hx hb dX3_rise_22 rfl (lv_at hl 2 rfl) ?_
    refine lv_iadd hx hb dX3_rise_23 ?_
    refine lv_istore (lv' := [(4, .int ((S x1.toNatClampNeg 6) + x2)), (0, .ref o), (1, .int x1), (2, .int x2), (3, .int x3)]) hx hb dX3_rise_24 hl (by decide) rfl (fun ls hl => ?_)
    refine lv_aload_n hx hb dX3_rise_26 rfl (lv_at hl 1 rfl) ?_
    refine va_get (D := D) (ci := 2) (v := .int (G 5)) (C := RX3) (T := TX3) (N := 19) hx hb hts hinM hown hK T.1 0 rfl rfl 17 (by decide) (hts _ (List.mem_cons_of_mem _ k3_f50)) (fun _ h9 => h9) rfl dX3_rise_27 ?_
    refine lv_iload_n hx hb dX3_rise_30 rfl (lv_at hl 2 rfl) ?_
    refine lv_icmp_ne (tgt := 59) hx hb dX3_rise_31 (by decide) (fun c_31 => ?_) (fun c_31 => ?_)
    · skip
      refine lv_aload_n hx hb dX3_rise_59 rfl (lv_at hl 1 rfl) ?_
      refine va_get (D := D) (ci := 2) (v := .ref (am 6)) (C := RX3) (T := TX3) (N := 19) hx hb hts hinM hown hK T.1 0 rfl rfl 9 (by decide) (hts _ (List.mem_cons_of_mem _ k3_f29)) (fun _ h9 => h9) rfl dX3_rise_60 ?_
      refine lv_iload_n hx hb dX3_rise_63 rfl (lv_at hl 2 rfl) ?_
      refine lv_iload hx hb dX3_rise_64 (lv_at hl 0 rfl) ?_
      have h_66 : vp_in x1 32 := h1
      refine va_iast (x := (S x1.toNatClampNeg 6) + x2) hx hb hK T.1 T.2.1 T.2.2 7 7 rfl rfl h_66 dX3_rise_66 (fun H locs hP hD hS => ?_)
      have T := md_set6 (i := x1.toNatClampNeg) (v := (S x1.toNatClampNeg 6) + x2) ⟨hP, hD, hS⟩
      refine lv_iload hx hb dX3_rise_67 (lv_at hl 0 rfl) ?_
      refine lv_iload_n hx hb dX3_rise_69 rfl (lv_at hl 4 rfl) ?_
      refine lv_icmp_ne (tgt := 78) hx hb dX3_rise_70 (by decide) (fun c_70 => ?_) (fun c_70 => ?_)
      · skip
        have e9 : sm_rise G S x1 x2 x3 = (G, up2 S x1.toNatClampNeg 6 ((S x1.toNatClampNeg 6) + x2)) := by unfold sm_rise; simp only [if_pos c_9, if_neg c_31, if_neg c_70]
        exact hw_vret C T (by rw [e9]) dX3_rise_78
      · skip
        refine lv_aload_n hx hb dX3_rise_73 rfl (lv_at hl 1 rfl) ?_
        refine lv_iload_n hx hb dX3_rise_74 rfl (lv_at hl 2 rfl) ?_
        refine hw_Vv (As := [.int x1]) (rest := []) C T (c_M_end h1) (cwV 1 hts (x3_in k3_m95 k3_i_end k3_s_end k3_ini k3_c_end) rfl rfl rfl (by decide +kernel) ⟨Nat.le_of_ble_eq_true rfl, Nat.le_of_ble_eq_true rfl⟩) md_isO md_ad rfl hl.1 rfl (Nat.le_of_ble_eq_true rfl) dX3_rise_75 ⟨Nat.zero_le _, Nat.zero_le _⟩ (fun H locs T => ?_)
        have e9 : sm_rise G S x1 x2 x3 = (G, sm_end (up2 S x1.toNatClampNeg 6 ((S x1.toNatClampNeg 6) + x2)) x1) := by unfold sm_rise; simp only [if_pos c_9, if_neg c_31, if_pos c_70]
        exact hw_vret C T (by rw [e9]) dX3_rise_78
    · skip
      refine lv_aload_n hx hb dX3_rise_34 rfl (lv_at hl 1 rfl) ?_
      refine va_get (D := D) (ci := 2) (v := .ref (am 7)) (C := RX3) (T := TX3) (N := 19) hx hb hts hinM hown hK T.1 0 rfl rfl 10 (by decide) (hts _ (List.mem_cons_of_mem _ k3_f32)) (fun _ h9 => h9) rfl dX3_rise_35 ?_
      refine lv_iload_n hx hb dX3_rise_38 rfl (lv_at hl 2 rfl) ?_
      have h_39 : vp_in x1 32 := h1
      refine va_iald hx hb hK T.1 8 8 rfl rfl h_39 dX3_rise_39 ?_
      refine W.eq (g2 := F0 m 40 ls [.int (S x1.toNatClampNeg 7)]) rfl ?_
      refine lv_iload hx hb dX3_rise_40 (lv_at hl 0 rfl) ?_
      refine lv_isub hx hb dX3_rise_42 ?_
      refine lv_bipush (v := 56) hx hb dX3_rise_43 (by decide) ?_
      refine lv_icmp_ge (tgt := 59) hx hb dX3_rise_45 (by decide) (fun c_45 => ?_) (fun c_45 => ?_)
      · skip
        refine lv_aload_n hx hb dX3_rise_59 rfl (lv_at hl 1 rfl) ?_
        refine va_get (D := D) (ci := 2) (v := .ref (am 6)) (C := RX3) (T := TX3) (N := 19) hx hb hts hinM hown hK T.1 0 rfl rfl 9 (by decide) (hts _ (List.mem_cons_of_mem _ k3_f29)) (fun _ h9 => h9) rfl dX3_rise_60 ?_
        refine lv_iload_n hx hb dX3_rise_63 rfl (lv_at hl 2 rfl) ?_
        refine lv_iload hx hb dX3_rise_64 (lv_at hl 0 rfl) ?_
        have h_66 : vp_in x1 32 := h1
        refine va_iast (x := (S x1.toNatClampNeg 6) + x2) hx hb hK T.1 T.2.1 T.2.2 7 7 rfl rfl h_66 dX3_rise_66 (fun H locs hP hD hS => ?_)
        have T := md_set6 (i := x1.toNatClampNeg) (v := (S x1.toNatClampNeg 6) + x2) ⟨hP, hD, hS⟩
        refine lv_iload hx hb dX3_rise_67 (lv_at hl 0 rfl) ?_
        refine lv_iload_n hx hb dX3_rise_69 rfl (lv_at hl 4 rfl) ?_
        refine lv_icmp_ne (tgt := 78) hx hb dX3_rise_70 (by decide) (fun c_70 => ?_) (fun c_70 => ?_)
        · skip
          have e9 : sm_rise G S x1 x2 x3 = (G, up2 S x1.toNatClampNeg 6 ((S x1.toNatClampNeg 6) + x2)) := by unfold sm_rise; simp only [if_pos c_9, if_pos c_31, if_pos c_45, if_neg c_70]
          exact hw_vret C T (by rw [e9]) dX3_rise_78
        · skip
          refine lv_aload_n hx hb dX3_rise_73 rfl (lv_at hl 1 rfl) ?_
          refine lv_iload_n hx hb dX3_rise_74 rfl (lv_at hl 2 rfl) ?_
          refine hw_Vv (As := [.int x1]) (rest := []) C T (c_M_end h1) (cwV 1 hts (x3_in k3_m95 k3_i_end k3_s_end k3_ini k3_c_end) rfl rfl rfl (by decide +kernel) ⟨Nat.le_of_ble_eq_true rfl, Nat.le_of_ble_eq_true rfl⟩) md_isO md_ad rfl hl.1 rfl (Nat.le_of_ble_eq_true rfl) dX3_rise_75 ⟨Nat.zero_le _, Nat.zero_le _⟩ (fun H locs T => ?_)
          have e9 : sm_rise G S x1 x2 x3 = (G, sm_end (up2 S x1.toNatClampNeg 6 ((S x1.toNatClampNeg 6) + x2)) x1) := by unfold sm_rise; simp only [if_pos c_9, if_pos c_31, if_pos c_45, if_pos c_70]
          exact hw_vret C T (by rw [e9]) dX3_rise_78
      · skip
        refine lv_aload_n hx hb dX3_rise_48 rfl (lv_at hl 1 rfl) ?_
        refine lv_dup hx hb dX3_rise_49 rfl ?_
        refine va_get (D := D) (ci := 2) (v := .int (G 4)) (C := RX3) (T := TX3) (N := 19) hx hb hts hinM hown hK T.1 0 rfl rfl 18 (by decide) (hts _ (List.mem_cons_of_mem _ k3_f73)) (fun _ h9 => h9) rfl dX3_rise_50 ?_
        refine lv_iconst (v := 1) hx hb dX3_rise_53 (by decide) ?_
        refine lv_iadd hx hb dX3_rise_54 ?_
        refine va_put (D := D) (ci := 2) (v := .int ((G 4) + 1)) (ty := .int) (C := RX3) (T := TX3) (N := 19) hx hb hts hinM tyX3 tyX3_ok nmX3 hown hK T.1 T.2.1 T.2.2 0 rfl rfl 18 (by decide) (hts _ (List.mem_cons_of_mem _ k3_f73)) (fun _ h9 => h9) rfl (by decide +kernel) rfl rfl (Nat.le_of_ble_eq_true rfl) dX3_rise_55 (fun H locs hP hD hS => ?_)
        have T := md_setG (k := 4) (v := (G 4) + 1) (kk := 18) rfl ⟨hP, hD, hS⟩
        have e9 : sm_rise G S x1 x2 x3 = (upd G 4 ((G 4) + 1), S) := by unfold sm_rise; simp only [if_pos c_9, if_pos c_31, if_neg c_45]
        exact hw_vret C T (by rw [e9]) dX3_rise_58
  · skip
    refine lv_iload_n hx hb dX3_rise_12 rfl (lv_at hl 3 rfl) ?_
    refine lv_goto (tgt := 24) hx hb dX3_rise_13 (by decide) ?_
    refine lv_istore (lv' := [(4, .int x3), (0, .ref o), (1, .int x1), (2, .int x2), (3, .int x3)]) hx hb dX3_rise_24 hl (by decide) rfl (fun ls hl => ?_)
    refine lv_aload_n hx hb dX3_rise_26 rfl (lv_at hl 1 rfl) ?_
    refine va_get (D := D) (ci := 2) (v := .int (G 5)) (C := RX3) (T := TX3) (N := 19) hx hb hts hinM hown hK T.1 0 rfl rfl 17 (by decide) (hts _ (List.mem_cons_of_mem _ k3_f50)) (fun _ h9 => h9) rfl dX3_rise_27 ?_
    refine lv_iload_n hx hb dX3_rise_30 rfl (lv_at hl 2 rfl) ?_
    refine lv_icmp_ne (tgt := 59) hx hb dX3_rise_31 (by decide) (fun c_31 => ?_) (fun c_31 => ?_)
    · skip
      refine lv_aload_n hx hb dX3_rise_59 rfl (lv_at hl 1 rfl) ?_
      refine va_get (D := D) (ci := 2) (v := .ref (am 6)) (C := RX3) (T := TX3) (N := 19) hx hb hts hinM hown hK T.1 0 rfl rfl 9 (by decide) (hts _ (List.mem_cons_of_mem _ k3_f29)) (fun _ h9 => h9) rfl dX3_rise_60 ?_
      refine lv_iload_n hx hb dX3_rise_63 rfl (lv_at hl 2 rfl) ?_
      refine lv_iload hx hb dX3_rise_64 (lv_at hl 0 rfl) ?_
      have h_66 : vp_in x1 32 := h1
      refine va_iast (x := x3) hx hb hK T.1 T.2.1 T.2.2 7 7 rfl rfl h_66 dX3_rise_66 (fun H locs hP hD hS => ?_)
      have T := md_set6 (i := x1.toNatClampNeg) (v := x3) ⟨hP, hD, hS⟩
      refine lv_iload hx hb dX3_rise_67 (lv_at hl 0 rfl) ?_
      refine lv_iload_n hx hb dX3_rise_69 rfl (lv_at hl 4 rfl) ?_
      refine lv_icmp_ne (tgt := 78) hx hb dX3_rise_70 (by decide) (fun c_70 => absurd rfl c_70) (fun _ => ?_)
      refine lv_aload_n hx hb dX3_rise_73 rfl (lv_at hl 1 rfl) ?_
      refine lv_iload_n hx hb dX3_rise_74 rfl (lv_at hl 2 rfl) ?_
      refine hw_Vv (As := [.int x1]) (rest := []) C T (c_M_end h1) (cwV 1 hts (x3_in k3_m95 k3_i_end k3_s_end k3_ini k3_c_end) rfl rfl rfl (by decide +kernel) ⟨Nat.le_of_ble_eq_true rfl, Nat.le_of_ble_eq_true rfl⟩) md_isO md_ad rfl hl.1 rfl (Nat.le_of_ble_eq_true rfl) dX3_rise_75 ⟨Nat.zero_le _, Nat.zero_le _⟩ (fun H locs T => ?_)
      have e9 : sm_rise G S x1 x2 x3 = (G, sm_end (up2 S x1.toNatClampNeg 6 x3) x1) := by unfold sm_rise; simp only [if_neg c_9, if_neg c_31]
      exact hw_vret C T (by rw [e9]) dX3_rise_78
    · skip
      refine lv_aload_n hx hb dX3_rise_34 rfl (lv_at hl 1 rfl) ?_
      refine va_get (D := D) (ci := 2) (v := .ref (am 7)) (C := RX3) (T := TX3) (N := 19) hx hb hts hinM hown hK T.1 0 rfl rfl 10 (by decide) (hts _ (List.mem_cons_of_mem _ k3_f32)) (fun _ h9 => h9) rfl dX3_rise_35 ?_
      refine lv_iload_n hx hb dX3_rise_38 rfl (lv_at hl 2 rfl) ?_
      have h_39 : vp_in x1 32 := h1
      refine va_iald hx hb hK T.1 8 8 rfl rfl h_39 dX3_rise_39 ?_
      refine W.eq (g2 := F0 m 40 ls [.int (S x1.toNatClampNeg 7)]) rfl ?_
      refine lv_iload hx hb dX3_rise_40 (lv_at hl 0 rfl) ?_
      refine lv_isub hx hb dX3_rise_42 ?_
      refine lv_bipush (v := 56) hx hb dX3_rise_43 (by decide) ?_
      refine lv_icmp_ge (tgt := 59) hx hb dX3_rise_45 (by decide) (fun c_45 => ?_) (fun c_45 => ?_)
      · skip
        refine lv_aload_n hx hb dX3_rise_59 rfl (lv_at hl 1 rfl) ?_
        refine va_get (D := D) (ci := 2) (v := .ref (am 6)) (C := RX3) (T := TX3) (N := 19) hx hb hts hinM hown hK T.1 0 rfl rfl 9 (by decide) (hts _ (List.mem_cons_of_mem _ k3_f29)) (fun _ h9 => h9) rfl dX3_rise_60 ?_
        refine lv_iload_n hx hb dX3_rise_63 rfl (lv_at hl 2 rfl) ?_
        refine lv_iload hx hb dX3_rise_64 (lv_at hl 0 rfl) ?_
        have h_66 : vp_in x1 32 := h1
        refine va_iast (x := x3) hx hb hK T.1 T.2.1 T.2.2 7 7 rfl rfl h_66 dX3_rise_66 (fun H locs hP hD hS => ?_)
        have T := md_set6 (i := x1.toNatClampNeg) (v := x3) ⟨hP, hD, hS⟩
        refine lv_iload hx hb dX3_rise_67 (lv_at hl 0 rfl) ?_
        refine lv_iload_n hx hb dX3_rise_69 rfl (lv_at hl 4 rfl) ?_
        refine lv_icmp_ne (tgt := 78) hx hb dX3_rise_70 (by decide) (fun c_70 => absurd rfl c_70) (fun _ => ?_)
        refine lv_aload_n hx hb dX3_rise_73 rfl (lv_at hl 1 rfl) ?_
        refine lv_iload_n hx hb dX3_rise_74 rfl (lv_at hl 2 rfl) ?_
        refine hw_Vv (As := [.int x1]) (rest := []) C T (c_M_end h1) (cwV 1 hts (x3_in k3_m95 k3_i_end k3_s_end k3_ini k3_c_end) rfl rfl rfl (by decide +kernel) ⟨Nat.le_of_ble_eq_true rfl, Nat.le_of_ble_eq_true rfl⟩) md_isO md_ad rfl hl.1 rfl (Nat.le_of_ble_eq_true rfl) dX3_rise_75 ⟨Nat.zero_le _, Nat.zero_le _⟩ (fun H locs T => ?_)
        have e9 : sm_rise G S x1 x2 x3 = (G, sm_end (up2 S x1.toNatClampNeg 6 x3) x1) := by unfold sm_rise; simp only [if_neg c_9, if_pos c_31, if_pos c_45]
        exact hw_vret C T (by rw [e9]) dX3_rise_78
      · skip
        refine lv_aload_n hx hb dX3_rise_48 rfl (lv_at hl 1 rfl) ?_
        refine lv_dup hx hb dX3_rise_49 rfl ?_
        refine va_get (D := D) (ci := 2) (v := .int (G 4)) (C := RX3) (T := TX3) (N := 19) hx hb hts hinM hown hK T.1 0 rfl rfl 18 (by decide) (hts _ (List.mem_cons_of_mem _ k3_f73)) (fun _ h9 => h9) rfl dX3_rise_50 ?_
        refine lv_iconst (v := 1) hx hb dX3_rise_53 (by decide) ?_
        refine lv_iadd hx hb dX3_rise_54 ?_
        refine va_put (D := D) (ci := 2) (v := .int ((G 4) + 1)) (ty := .int) (C := RX3) (T := TX3) (N := 19) hx hb hts hinM tyX3 tyX3_ok nmX3 hown hK T.1 T.2.1 T.2.2 0 rfl rfl 18 (by decide) (hts _ (List.mem_cons_of_mem _ k3_f73)) (fun _ h9 => h9) rfl (by decide +kernel) rfl rfl (Nat.le_of_ble_eq_true rfl) dX3_rise_55 (fun H locs hP hD hS => ?_)
        have T := md_setG (k := 4) (v := (G 4) + 1) (kk := 18) rfl ⟨hP, hD, hS⟩
        have e9 : sm_rise G S x1 x2 x3 = (upd G 4 ((G 4) + 1), S) := by unfold sm_rise; simp only [if_neg c_9, if_pos c_31, if_neg c_45]
        exact hw_vret C T (by rw [e9]) dX3_rise_58
/-- step, its picture -/
def sm_step (G : Nat → Int32) (S : Nat → Nat → Int32) (x1 : Int32) : (Nat → Int32) × (Nat → Nat → Int32) := if (S x1.toNatClampNeg 8) = 0 then ((sm_stepDoor G S x1).1, (sm_stepDoor G S x1).2) else (if (S x1.toNatClampNeg 8) = 2 then ((sm_rise G S x1 2 (S x1.toNatClampNeg 11)).1, (sm_rise G S x1 2 (S x1.toNatClampNeg 11)).2) else (if (S x1.toNatClampNeg 9) ≤ 0 then (if (S x1.toNatClampNeg 11) ≤ ((S x1.toNatClampNeg 6) - 4) then (if ((up2 S x1.toNatClampNeg 6 ((S x1.toNatClampNeg 6) - 4)) x1.toNatClampNeg 6) = ((up2 S x1.toNatClampNeg 6 ((S x1.toNatClampNeg 6) - 4)) x1.toNatClampNeg 11) then (G, sm_await (up2 S x1.toNatClampNeg 6 ((S x1.toNatClampNeg 6) - 4)) x1 30) else (G, up2 S x1.toNatClampNeg 6 ((S x1.toNatClampNeg 6) - 4))) else (if ((up2 S x1.toNatClampNeg 6 (S x1.toNatClampNeg 11)) x1.toNatClampNeg 6) = ((up2 S x1.toNatClampNeg 6 (S x1.toNatClampNeg 11)) x1.toNatClampNeg 11) then (G, sm_await (up2 S x1.toNatClampNeg 6 (S x1.toNatClampNeg 11)) x1 30) else (G, up2 S x1.toNatClampNeg 6 (S x1.toNatClampNeg 11)))) else ((sm_rise G S x1 4 (S x1.toNatClampNeg 12)).1, (sm_rise G S x1 4 (S x1.toNatClampNeg 12)).2)))
theorem sm_step_0 {G : Nat → Int32} {S : Nat → Nat → Int32} {x1 : Int32} : (sm_step G S x1).1 0 = G 0 := by
  unfold sm_step
  repeat' split
  all_goals first | rfl | exact sm_stepDoor_0 | exact sm_rise_0
theorem sm_step_n {G : Nat → Int32} {S : Nat → Nat → Int32} {x1 : Int32} {n : Nat} (h : hg_n G n) : hg_n (sm_step G S x1).1 n := ⟨h.1, by rw [sm_step_0]; exact h.2⟩
set_option maxHeartbeats 4000000 in
set_option maxRecDepth 100000 in
theorem c_M_step {x1 : Int32} (h1 : vp_in x1 32) : MV l D (t0 :: md_tys cm) yX3_step wsX3_step { frames := 2, cells := 0, slots := 0, locals := 45 } [.ref o, .int x1] (md_W o am cm G S B) (md_W o am cm (sm_step G S x1).1 (sm_step G S x1).2 B) := by
  refine MV.start (cc := cX3_step) (maxL := 2) (by decide) rfl (Nat.le_of_ble_eq_true rfl) (fun p e s m args below meth c A ls C T hl => ?_)
  have hx := C.1.1
  have hb := C.1.2.1
  have hml := C.1.2.2.1
  have hown : s.vm.findClass RX3 = some m.cls := C.1.2.2.2.1
  have hts := C.1.2.2.2.2
  have hK := C.2.2.2.1
  have hinM : ∀ w ∈ wsX30, w ∈ wsX3_step := fun w h => List.mem_cons_of_mem _ (inX3 w h)
  have hl : lv_has ls 2 [(0, .ref o), (1, .int x1)] := hl
  refine lv_aload_n hx hb dX3_step_0 rfl (lv_at hl 0 rfl) ?_
  refine va_get (D := D) (ci := 2) (v := .ref (am 8)) (C := RX3) (T := TX3) (N := 19) hx hb hts hinM hown hK T.1 0 rfl rfl 11 (by decide) (hts _ (List.mem_cons_of_mem _ k3_f35)) (fun _ h9 => h9) rfl dX3_step_1 ?_
  refine lv_iload_n hx hb dX3_step_4 rfl (lv_at hl 1 rfl) ?_
  have h_5 : vp_in x1 32 := h1
  refine va_iald hx hb hK T.1 9 9 rfl rfl h_5 dX3_step_5 ?_
  refine W.eq (g2 := F0 m 6 ls [.int (S x1.toNatClampNeg 8)]) rfl ?_
  refine lv_if_ne (tgt := 17) hx hb dX3_step_6 (by decide) (fun c_6 => ?_) (fun c_6 => ?_)
  · skip
    refine lv_aload_n hx hb dX3_step_17 rfl (lv_at hl 0 rfl) ?_
    refine va_get (D := D) (ci := 2) (v := .ref (am 8)) (C := RX3) (T := TX3) (N := 19) hx hb hts hinM hown hK T.1 0 rfl rfl 11 (by decide) (hts _ (List.mem_cons_of_mem _ k3_f35)) (fun _ h9 => h9) rfl dX3_step_18 ?_
    refine lv_iload_n hx hb dX3_step_21 rfl (lv_at hl 1 rfl) ?_
    have h_22 : vp_in x1 32 := h1
    refine va_iald hx hb hK T.1 9 9 rfl rfl h_22 dX3_step_22 ?_
    refine W.eq (g2 := F0 m 23 ls [.int (S x1.toNatClampNeg 8)]) rfl ?_
    refine lv_iconst (v := 2) hx hb dX3_step_23 (by decide) ?_
    refine lv_icmp_ne (tgt := 42) hx hb dX3_step_24 (by decide) (fun c_24 => ?_) (fun c_24 => ?_)
    · skip
      refine lv_aload_n hx hb dX3_step_42 rfl (lv_at hl 0 rfl) ?_
      refine va_get (D := D) (ci := 2) (v := .ref (am 9)) (C := RX3) (T := TX3) (N := 19) hx hb hts hinM hown hK T.1 0 rfl rfl 12 (by decide) (hts _ (List.mem_cons_of_mem _ k3_f38)) (fun _ h9 => h9) rfl dX3_step_43 ?_
      refine lv_iload_n hx hb dX3_step_46 rfl (lv_at hl 1 rfl) ?_
      have h_47 : vp_in x1 32 := h1
      refine va_iald hx hb hK T.1 10 10 rfl rfl h_47 dX3_step_47 ?_
      refine W.eq (g2 := F0 m 48 ls [.int (S x1.toNatClampNeg 9)]) rfl ?_
      refine lv_if_le (tgt := 66) hx hb dX3_step_48 (by decide) (fun c_48 => ?_) (fun c_48 => ?_)
      · skip
        refine lv_aload_n hx hb dX3_step_66 rfl (lv_at hl 0 rfl) ?_
        refine va_get (D := D) (ci := 2) (v := .ref (am 6)) (C := RX3) (T := TX3) (N := 19) hx hb hts hinM hown hK T.1 0 rfl rfl 9 (by decide) (hts _ (List.mem_cons_of_mem _ k3_f29)) (fun _ h9 => h9) rfl dX3_step_67 ?_
        refine lv_iload_n hx hb dX3_step_70 rfl (lv_at hl 1 rfl) ?_
        refine lv_aload_n hx hb dX3_step_71 rfl (lv_at hl 0 rfl) ?_
        refine va_get (D := D) (ci := 2) (v := .ref (am 6)) (C := RX3) (T := TX3) (N := 19) hx hb hts hinM hown hK T.1 0 rfl rfl 9 (by decide) (hts _ (List.mem_cons_of_mem _ k3_f29)) (fun _ h9 => h9) rfl dX3_step_72 ?_
        refine lv_iload_n hx hb dX3_step_75 rfl (lv_at hl 1 rfl) ?_
        have h_76 : vp_in x1 32 := h1
        refine va_iald hx hb hK T.1 7 7 rfl rfl h_76 dX3_step_76 ?_
        refine W.eq (g2 := F0 m 77 ls [.int (S x1.toNatClampNeg 6), .int x1, .ref (am 6)]) rfl ?_
        refine lv_iconst (v := 4) hx hb dX3_step_77 (by decide) ?_
        refine lv_isub hx hb dX3_step_78 ?_
        refine lv_aload_n hx hb dX3_step_79 rfl (lv_at hl 0 rfl) ?_
        refine va_get (D := D) (ci := 2) (v := .ref (am 11)) (C := RX3) (T := TX3) (N := 19) hx hb hts hinM hown hK T.1 0 rfl rfl 14 (by decide) (hts _ (List.mem_cons_of_mem _ k3_f44)) (fun _ h9 => h9) rfl dX3_step_80 ?_
        refine lv_iload_n hx hb dX3_step_83 rfl (lv_at hl 1 rfl) ?_
        have h_84 : vp_in x1 32 := h1
        refine va_iald hx hb hK T.1 12 12 rfl rfl h_84 dX3_step_84 ?_
        refine W.eq (g2 := F0 m 85 ls [.int (S x1.toNatClampNeg 11), .int ((S x1.toNatClampNeg 6) - 4), .int x1, .ref (am 6)]) rfl ?_
        refine lv_icmp_ge (tgt := 97) hx hb dX3_step_85 (by decide) (fun c_85 => ?_) (fun c_85 => ?_)
        · skip
          refine lv_aload_n hx hb dX3_step_97 rfl (lv_at hl 0 rfl) ?_
          refine va_get (D := D) (ci := 2) (v := .ref (am 6)) (C := RX3) (T := TX3) (N := 19) hx hb hts hinM hown hK T.1 0 rfl rfl 9 (by decide) (hts _ (List.mem_cons_of_mem _ k3_f29)) (fun _ h9 => h9) rfl dX3_step_98 ?_
          refine lv_iload_n hx hb dX3_step_101 rfl (lv_at hl 1 rfl) ?_
          have h_102 : vp_in x1 32 := h1
          refine va_iald hx hb hK T.1 7 7 rfl rfl h_102 dX3_step_102 ?_
          refine W.eq (g2 := F0 m 103 ls [.int (S x1.toNatClampNeg 6), .int x1, .ref (am 6)]) rfl ?_
          refine lv_iconst (v := 4) hx hb dX3_step_103 (by decide) ?_
          refine lv_isub hx hb dX3_step_104 ?_
          have h_105 : vp_in x1 32 := h1
          refine va_iast (x := (S x1.toNatClampNeg 6) - 4) hx hb hK T.1 T.2.1 T.2.2 7 7 rfl rfl h_105 dX3_step_105 (fun H locs hP hD hS => ?_)
          have T := md_set6 (i := x1.toNatClampNeg) (v := (S x1.toNatClampNeg 6) - 4) ⟨hP, hD, hS⟩
          refine lv_aload_n hx hb dX3_step_106 rfl (lv_at hl 0 rfl) ?_
          refine va_get (D := D) (ci := 2) (v := .ref (am 6)) (C := RX3) (T := TX3) (N := 19) hx hb hts hinM hown hK T.1 0 rfl rfl 9 (by decide) (hts _ (List.mem_cons_of_mem _ k3_f29)) (fun _ h9 => h9) rfl dX3_step_107 ?_
          refine lv_iload_n hx hb dX3_step_110 rfl (lv_at hl 1 rfl) ?_
          have h_111 : vp_in x1 32 := h1
          refine va_iald hx hb hK T.1 7 7 rfl rfl h_111 dX3_step_111 ?_
          refine W.eq (g2 := F0 m 112 ls [.int ((up2 S x1.toNatClampNeg 6 ((S x1.toNatClampNeg 6) - 4)) x1.toNatClampNeg 6)]) rfl ?_
          refine lv_aload_n hx hb dX3_step_112 rfl (lv_at hl 0 rfl) ?_
          refine va_get (D := D) (ci := 2) (v := .ref (am 11)) (C := RX3) (T := TX3) (N := 19) hx hb hts hinM hown hK T.1 0 rfl rfl 14 (by decide) (hts _ (List.mem_cons_of_mem _ k3_f44)) (fun _ h9 => h9) rfl dX3_step_113 ?_
          refine lv_iload_n hx hb dX3_step_116 rfl (lv_at hl 1 rfl) ?_
          have h_117 : vp_in x1 32 := h1
          refine va_iald hx hb hK T.1 12 12 rfl rfl h_117 dX3_step_117 ?_
          refine W.eq (g2 := F0 m 118 ls [.int ((up2 S x1.toNatClampNeg 6 ((S x1.toNatClampNeg 6) - 4)) x1.toNatClampNeg 11), .int ((up2 S x1.toNatClampNeg 6 ((S x1.toNatClampNeg 6) - 4)) x1.toNatClampNeg 6)]) rfl ?_
          refine lv_icmp_ne (tgt := 128) hx hb dX3_step_118 (by decide) (fun c_118 => ?_) (fun c_118 => ?_)
          · skip
            have e9 : sm_step G S x1 = (G, up2 S x1.toNatClampNeg 6 ((S x1.toNatClampNeg 6) - 4)) := by unfold sm_step; simp only [if_neg c_6, if_neg c_24, if_pos c_48, if_pos c_85, if_neg c_118]
            exact hw_vret C T (by rw [e9]) dX3_step_128
          · skip
            refine lv_aload_n hx hb dX3_step_121 rfl (lv_at hl 0 rfl) ?_
            refine lv_iload_n hx hb dX3_step_122 rfl (lv_at hl 1 rfl) ?_
            refine lv_bipush (v := 30) hx hb dX3_step_123 (by decide) ?_
            refine hw_Vv (As := [.int x1, .int 30]) (rest := []) C T (c_M_await h1) (cwV 2 hts (x3_in k3_m91 k3_i_await k3_s_await k3_ini k3_c_await) rfl rfl rfl (by decide +kernel) ⟨Nat.le_of_ble_eq_true rfl, Nat.le_of_ble_eq_true rfl⟩) md_isO md_ad rfl hl.1 rfl (Nat.le_of_ble_eq_true rfl) dX3_step_125 ⟨Nat.zero_le _, Nat.zero_le _⟩ (fun H locs T => ?_)
            have e9 : sm_step G S x1 = (G, sm_await (up2 S x1.toNatClampNeg 6 ((S x1.toNatClampNeg 6) - 4)) x1 30) := by unfold sm_step; simp only [if_neg c_6, if_neg c_24, if_pos c_48, if_pos c_85, if_pos c_118]
            exact hw_vret C T (by rw [e9]) dX3_step_128
        · skip
          refine lv_aload_n hx hb dX3_step_88 rfl (lv_at hl 0 rfl) ?_
          refine va_get (D := D) (ci := 2) (v := .ref (am 11)) (C := RX3) (T := TX3) (N := 19) hx hb hts hinM hown hK T.1 0 rfl rfl 14 (by decide) (hts _ (List.mem_cons_of_mem _ k3_f44)) (fun _ h9 => h9) rfl dX3_step_89 ?_
          refine lv_iload_n hx hb dX3_step_92 rfl (lv_at hl 1 rfl) ?_
          have h_93 : vp_in x1 32 := h1
          refine va_iald hx hb hK T.1 12 12 rfl rfl h_93 dX3_step_93 ?_
          refine W.eq (g2 := F0 m 94 ls [.int (S x1.toNatClampNeg 11), .int x1, .ref (am 6)]) rfl ?_
          refine lv_goto (tgt := 105) hx hb dX3_step_94 (by decide) ?_
          have h_105 : vp_in x1 32 := h1
          refine va_iast (x := S x1.toNatClampNeg 11) hx hb hK T.1 T.2.1 T.2.2 7 7 rfl rfl h_105 dX3_step_105 (fun H locs hP hD hS => ?_)
          have T := md_set6 (i := x1.toNatClampNeg) (v := S x1.toNatClampNeg 11) ⟨hP, hD, hS⟩
          refine lv_aload_n hx hb dX3_step_106 rfl (lv_at hl 0 rfl) ?_
          refine va_get (D := D) (ci := 2) (v := .ref (am 6)) (C := RX3) (T := TX3) (N := 19) hx hb hts hinM hown hK T.1 0 rfl rfl 9 (by decide) (hts _ (List.mem_cons_of_mem _ k3_f29)) (fun _ h9 => h9) rfl dX3_step_107 ?_
          refine lv_iload_n hx hb dX3_step_110 rfl (lv_at hl 1 rfl) ?_
          have h_111 : vp_in x1 32 := h1
          refine va_iald hx hb hK T.1 7 7 rfl rfl h_111 dX3_step_111 ?_
          refine W.eq (g2 := F0 m 112 ls [.int ((up2 S x1.toNatClampNeg 6 (S x1.toNatClampNeg 11)) x1.toNatClampNeg 6)]) rfl ?_
          refine lv_aload_n hx hb dX3_step_112 rfl (lv_at hl 0 rfl) ?_
          refine va_get (D := D) (ci := 2) (v := .ref (am 11)) (C := RX3) (T := TX3) (N := 19) hx hb hts hinM hown hK T.1 0 rfl rfl 14 (by decide) (hts _ (List.mem_cons_of_mem _ k3_f44)) (fun _ h9 => h9) rfl dX3_step_113 ?_
          refine lv_iload_n hx hb dX3_step_116 rfl (lv_at hl 1 rfl) ?_
          have h_117 : vp_in x1 32 := h1
          refine va_iald hx hb hK T.1 12 12 rfl rfl h_117 dX3_step_117 ?_
          refine W.eq (g2 := F0 m 118 ls [.int ((up2 S x1.toNatClampNeg 6 (S x1.toNatClampNeg 11)) x1.toNatClampNeg 11), .int ((up2 S x1.toNatClampNeg 6 (S x1.toNatClampNeg 11)) x1.toNatClampNeg 6)]) rfl ?_
          refine lv_icmp_ne (tgt := 128) hx hb dX3_step_118 (by decide) (fun c_118 => ?_) (fun c_118 => ?_)
          · skip
            have e9 : sm_step G S x1 = (G, up2 S x1.toNatClampNeg 6 (S x1.toNatClampNeg 11)) := by unfold sm_step; simp only [if_neg c_6, if_neg c_24, if_pos c_48, if_neg c_85, if_neg c_118]
            exact hw_vret C T (by rw [e9]) dX3_step_128
          · skip
            refine lv_aload_n hx hb dX3_step_121 rfl (lv_at hl 0 rfl) ?_
            refine lv_iload_n hx hb dX3_step_122 rfl (lv_at hl 1 rfl) ?_
            refine lv_bipush (v := 30) hx hb dX3_step_123 (by decide) ?_
            refine hw_Vv (As := [.int x1, .int 30]) (rest := []) C T (c_M_await h1) (cwV 2 hts (x3_in k3_m91 k3_i_await k3_s_await k3_ini k3_c_await) rfl rfl rfl (by decide +kernel) ⟨Nat.le_of_ble_eq_true rfl, Nat.le_of_ble_eq_true rfl⟩) md_isO md_ad rfl hl.1 rfl (Nat.le_of_ble_eq_true rfl) dX3_step_125 ⟨Nat.zero_le _, Nat.zero_le _⟩ (fun H locs T => ?_)
            have e9 : sm_step G S x1 = (G, sm_await (up2 S x1.toNatClampNeg 6 (S x1.toNatClampNeg 11)) x1 30) := by unfold sm_step; simp only [if_neg c_6, if_neg c_24, if_pos c_48, if_neg c_85, if_pos c_118]
            exact hw_vret C T (by rw [e9]) dX3_step_128
      · skip
        refine lv_aload_n hx hb dX3_step_51 rfl (lv_at hl 0 rfl) ?_
        refine lv_iload_n hx hb dX3_step_52 rfl (lv_at hl 1 rfl) ?_
        refine lv_iconst (v := 4) hx hb dX3_step_53 (by decide) ?_
        refine lv_aload_n hx hb dX3_step_54 rfl (lv_at hl 0 rfl) ?_
        refine va_get (D := D) (ci := 2) (v := .ref (am 12)) (C := RX3) (T := TX3) (N := 19) hx hb hts hinM hown hK T.1 0 rfl rfl 15 (by decide) (hts _ (List.mem_cons_of_mem _ k3_f47)) (fun _ h9 => h9) rfl dX3_step_55 ?_
        refine lv_iload_n hx hb dX3_step_58 rfl (lv_at hl 1 rfl) ?_
        have h_59 : vp_in x1 32 := h1
        refine va_iald hx hb hK T.1 13 13 rfl rfl h_59 dX3_step_59 ?_
        refine W.eq (g2 := F0 m 60 ls [.int (S x1.toNatClampNeg 12), .int 4, .int x1, .ref o]) rfl ?_
        refine hw_Vv (As := [.int x1, .int 4, .int (S x1.toNatClampNeg 12)]) (rest := []) C T (c_M_rise h1) (cwV 3 hts (x3_in k3_m102 k3_i_rise k3_s_rise k3_ini k3_c_rise) rfl rfl rfl (by decide +kernel) ⟨Nat.le_of_ble_eq_true rfl, Nat.le_of_ble_eq_true rfl⟩) md_isO md_ad rfl hl.1 rfl (Nat.le_of_ble_eq_true rfl) dX3_step_60 ⟨Nat.zero_le _, Nat.zero_le _⟩ (fun H locs T => ?_)
        refine lv_goto (tgt := 128) hx hb dX3_step_63 (by decide) ?_
        have e9 : sm_step G S x1 = ((sm_rise G S x1 4 (S x1.toNatClampNeg 12)).1, (sm_rise G S x1 4 (S x1.toNatClampNeg 12)).2) := by unfold sm_step; simp only [if_neg c_6, if_neg c_24, if_neg c_48]
        exact hw_vret C T (by rw [e9]) dX3_step_128
    · skip
      refine lv_aload_n hx hb dX3_step_27 rfl (lv_at hl 0 rfl) ?_
      refine lv_iload_n hx hb dX3_step_28 rfl (lv_at hl 1 rfl) ?_
      refine lv_iconst (v := 2) hx hb dX3_step_29 (by decide) ?_
      refine lv_aload_n hx hb dX3_step_30 rfl (lv_at hl 0 rfl) ?_
      refine va_get (D := D) (ci := 2) (v := .ref (am 11)) (C := RX3) (T := TX3) (N := 19) hx hb hts hinM hown hK T.1 0 rfl rfl 14 (by decide) (hts _ (List.mem_cons_of_mem _ k3_f44)) (fun _ h9 => h9) rfl dX3_step_31 ?_
      refine lv_iload_n hx hb dX3_step_34 rfl (lv_at hl 1 rfl) ?_
      have h_35 : vp_in x1 32 := h1
      refine va_iald hx hb hK T.1 12 12 rfl rfl h_35 dX3_step_35 ?_
      refine W.eq (g2 := F0 m 36 ls [.int (S x1.toNatClampNeg 11), .int 2, .int x1, .ref o]) rfl ?_
      refine hw_Vv (As := [.int x1, .int 2, .int (S x1.toNatClampNeg 11)]) (rest := []) C T (c_M_rise h1) (cwV 3 hts (x3_in k3_m102 k3_i_rise k3_s_rise k3_ini k3_c_rise) rfl rfl rfl (by decide +kernel) ⟨Nat.le_of_ble_eq_true rfl, Nat.le_of_ble_eq_true rfl⟩) md_isO md_ad rfl hl.1 rfl (Nat.le_of_ble_eq_true rfl) dX3_step_36 ⟨Nat.zero_le _, Nat.zero_le _⟩ (fun H locs T => ?_)
      refine lv_goto (tgt := 128) hx hb dX3_step_39 (by decide) ?_
      have e9 : sm_step G S x1 = ((sm_rise G S x1 2 (S x1.toNatClampNeg 11)).1, (sm_rise G S x1 2 (S x1.toNatClampNeg 11)).2) := by unfold sm_step; simp only [if_neg c_6, if_pos c_24]
      exact hw_vret C T (by rw [e9]) dX3_step_128
  · skip
    refine lv_aload_n hx hb dX3_step_9 rfl (lv_at hl 0 rfl) ?_
    refine lv_iload_n hx hb dX3_step_10 rfl (lv_at hl 1 rfl) ?_
    refine hw_Vv (As := [.int x1]) (rest := []) C T (c_M_stepDoor h1) (cwV 1 hts (x3_in k3_m99 k3_i_stepDoor k3_s_stepDoor k3_ini k3_c_stepDoor) rfl rfl rfl (by decide +kernel) ⟨Nat.le_of_ble_eq_true rfl, Nat.le_of_ble_eq_true rfl⟩) md_isO md_ad rfl hl.1 rfl (Nat.le_of_ble_eq_true rfl) dX3_step_11 ⟨Nat.zero_le _, Nat.zero_le _⟩ (fun H locs T => ?_)
    refine lv_goto (tgt := 128) hx hb dX3_step_14 (by decide) ?_
    have e9 : sm_step G S x1 = ((sm_stepDoor G S x1).1, (sm_stepDoor G S x1).2) := by unfold sm_step; simp only [if_pos c_6]
    exact hw_vret C T (by rw [e9]) dX3_step_128
/-- reset: its loop, by what is left to do -/
def sm_reset_loop (G : Nat → Int32) : Nat → Nat → (Nat → Nat → Int32) → (Nat → Int32) × (Nat → Nat → Int32)
  | 0, _, S => (upd (upd (upd G 2 0) 5 (-1)) 4 0, S)
  | k + 1, i, S => sm_reset_loop G k (i + 1) (up2 (up2 (up2 (up2 (up2 (up2 S i 6 (S i 0)) i 7 ((up2 S i 6 (S i 0)) i 1)) i 8 (-1)) i 9 0) i 10 0) i 11 (-1))
set_option maxHeartbeats 4000000 in
set_option maxRecDepth 100000 in
theorem lp_m_reset {p : Program} {e : Env} {s : State} {m : MethodId} {args : Array Value} {below : List Frame} {meth : Method} {c : Code} {A : Nat → Prop}  (hG : hg_n G n) (C : hw_C p s m args meth c cX3_reset none 2 wsX3_reset yX3_reset.cls D (t0 :: md_tys cm) A) :
    ∀ (k i : Nat) (S : Nat → Nat → Int32), i + k = n → ∀ (ls : Array Slot) (H : Heap) (locs : List Loc), hw_T D A s.heap (md_W o am cm G S B) H locs → lv_has ls 2 [(0, .ref o), (1, .int (nI i))] → W p l e { frames := 0, cells := 0, slots := 0, locals := 0 } s m args below meth c H locs 0 0 (MQ below (va_Qv (fun (_ : Unit) => True) (fun _ t => va_P D vwCl (md_W o am cm (sm_reset_loop G k i S).1 (sm_reset_loop G k i S).2 B) t.heap) A) args s 0 0 A) (F0 m 7 ls []) := by
  have hx := C.1.1
  have hb := C.1.2.1
  have hml := C.1.2.2.1
  have hown : s.vm.findClass RX3 = some m.cls := C.1.2.2.2.1
  have hts := C.1.2.2.2.2
  have hK := C.2.2.2.1
  have hinM : ∀ w ∈ wsX30, w ∈ wsX3_reset := fun w h => List.mem_cons_of_mem _ (inX3 w h)
  have hn32 := hG.1
  intro k
  induction k with
  | zero =>
    intro i S hik ls H locs T hl
    refine lv_iload_n hx hb dX3_reset_7 rfl (lv_at hl 1 rfl) ?_
    refine lv_aload_n hx hb dX3_reset_8 rfl (lv_at hl 0 rfl) ?_
    refine va_get (D := D) (ci := 2) (v := .int (G 0)) (C := RX3) (T := TX3) (N := 19) hx hb hts hinM hown hK T.1 0 rfl rfl 1 (by decide) (hts _ (List.mem_cons_of_mem _ k3_f57)) (fun _ h9 => h9) rfl dX3_reset_9 ?_
    refine lv_icmp_ge (tgt := 73) hx hb dX3_reset_12 (by decide) (fun c_12 => ?_) (fun c_12 => absurd (show G 0 ≤ nI i by rw [hG.2]; exact nI_le (show n ≤ i by omega) (by omega)) c_12)
    refine lv_aload_n hx hb dX3_reset_73 rfl (lv_at hl 0 rfl) ?_
    refine lv_iconst (v := 0) hx hb dX3_reset_74 (by decide) ?_
    refine va_put (D := D) (ci := 2) (v := .int 0) (ty := .int) (C := RX3) (T := TX3) (N := 19) hx hb hts hinM tyX3 tyX3_ok nmX3 hown hK T.1 T.2.1 T.2.2 0 rfl rfl 16 (by decide) (hts _ (List.mem_cons_of_mem _ k3_f70)) (fun _ h9 => h9) rfl (by decide +kernel) rfl rfl (Nat.le_of_ble_eq_true rfl) dX3_reset_75 (fun H locs hP hD hS => ?_)
    have T := md_setG (k := 2) (v := 0) (kk := 16) rfl ⟨hP, hD, hS⟩
    refine lv_aload_n hx hb dX3_reset_78 rfl (lv_at hl 0 rfl) ?_
    refine lv_iconst (v := (-1)) hx hb dX3_reset_79 (by decide) ?_
    refine va_put (D := D) (ci := 2) (v := .int (-1)) (ty := .int) (C := RX3) (T := TX3) (N := 19) hx hb hts hinM tyX3 tyX3_ok nmX3 hown hK T.1 T.2.1 T.2.2 0 rfl rfl 17 (by decide) (hts _ (List.mem_cons_of_mem _ k3_f50)) (fun _ h9 => h9) rfl (by decide +kernel) rfl rfl (Nat.le_of_ble_eq_true rfl) dX3_reset_80 (fun H locs hP hD hS => ?_)
    have T := md_setG (k := 5) (v := (-1)) (kk := 17) rfl ⟨hP, hD, hS⟩
    refine lv_aload_n hx hb dX3_reset_83 rfl (lv_at hl 0 rfl) ?_
    refine lv_iconst (v := 0) hx hb dX3_reset_84 (by decide) ?_
    refine va_put (D := D) (ci := 2) (v := .int 0) (ty := .int) (C := RX3) (T := TX3) (N := 19) hx hb hts hinM tyX3 tyX3_ok nmX3 hown hK T.1 T.2.1 T.2.2 0 rfl rfl 18 (by decide) (hts _ (List.mem_cons_of_mem _ k3_f73)) (fun _ h9 => h9) rfl (by decide +kernel) rfl rfl (Nat.le_of_ble_eq_true rfl) dX3_reset_85 (fun H locs hP hD hS => ?_)
    have T := md_setG (k := 4) (v := 0) (kk := 18) rfl ⟨hP, hD, hS⟩
    have e9 : sm_reset_loop G 0 i S = (upd (upd (upd G 2 0) 5 (-1)) 4 0, S) := by rw [sm_reset_loop]
    exact hw_vret C T (by rw [e9]) dX3_reset_88
  | succ k ih =>
    intro i S hik ls H locs T hl
    refine lv_iload_n hx hb dX3_reset_7 rfl (lv_at hl 1 rfl) ?_
    refine lv_aload_n hx hb dX3_reset_8 rfl (lv_at hl 0 rfl) ?_
    refine va_get (D := D) (ci := 2) (v := .int (G 0)) (C := RX3) (T := TX3) (N := 19) hx hb hts hinM hown hK T.1 0 rfl rfl 1 (by decide) (hts _ (List.mem_cons_of_mem _ k3_f57)) (fun _ h9 => h9) rfl dX3_reset_9 ?_
    refine lv_icmp_ge (tgt := 73) hx hb dX3_reset_12 (by decide) (fun c_12 => absurd c_12 (show ¬ G 0 ≤ nI i by rw [hG.2]; exact nI_ge (show i < n by omega) (by omega))) (fun c_12 => ?_)
    refine lv_aload_n hx hb dX3_reset_15 rfl (lv_at hl 0 rfl) ?_
    refine va_get (D := D) (ci := 2) (v := .ref (am 6)) (C := RX3) (T := TX3) (N := 19) hx hb hts hinM hown hK T.1 0 rfl rfl 9 (by decide) (hts _ (List.mem_cons_of_mem _ k3_f29)) (fun _ h9 => h9) rfl dX3_reset_16 ?_
    refine lv_iload_n hx hb dX3_reset_19 rfl (lv_at hl 1 rfl) ?_
    refine lv_aload_n hx hb dX3_reset_20 rfl (lv_at hl 0 rfl) ?_
    refine va_get (D := D) (ci := 2) (v := .ref (am 0)) (C := RX3) (T := TX3) (N := 19) hx hb hts hinM hown hK T.1 0 rfl rfl 2 (by decide) (hts _ (List.mem_cons_of_mem _ k3_f7)) (fun _ h9 => h9) rfl dX3_reset_21 ?_
    refine lv_iload_n hx hb dX3_reset_24 rfl (lv_at hl 1 rfl) ?_
    have h_25 : vp_in (nI i) 32 := vp_in_nI (show i < 32 by omega) (by decide)
    refine va_iald hx hb hK T.1 1 1 rfl rfl h_25 dX3_reset_25 ?_
    refine W.eq (g2 := F0 m 26 ls [.int (S i 0), .int (nI i), .ref (am 6)]) (by rw [nI_clamp (show i < 2 ^ 31 by omega)] <;> rfl) ?_
    have h_26 : vp_in (nI i) 32 := vp_in_nI (show i < 32 by omega) (by decide)
    refine va_iast (x := S i 0) hx hb hK T.1 T.2.1 T.2.2 7 7 rfl rfl h_26 dX3_reset_26 (fun H locs hP hD hS => ?_)
    rw [nI_clamp (show i < 2 ^ 31 by omega)] at hP hD
    have T := md_set6 (i := i) (v := S i 0) ⟨hP, hD, hS⟩
    refine lv_aload_n hx hb dX3_reset_27 rfl (lv_at hl 0 rfl) ?_
    refine va_get (D := D) (ci := 2) (v := .ref (am 7)) (C := RX3) (T := TX3) (N := 19) hx hb hts hinM hown hK T.1 0 rfl rfl 10 (by decide) (hts _ (List.mem_cons_of_mem _ k3_f32)) (fun _ h9 => h9) rfl dX3_reset_28 ?_
    refine lv_iload_n hx hb dX3_reset_31 rfl (lv_at hl 1 rfl) ?_
    refine lv_aload_n hx hb dX3_reset_32 rfl (lv_at hl 0 rfl) ?_
    refine va_get (D := D) (ci := 2) (v := .ref (am 1)) (C := RX3) (T := TX3) (N := 19) hx hb hts hinM hown hK T.1 0 rfl rfl 3 (by decide) (hts _ (List.mem_cons_of_mem _ k3_f13)) (fun _ h9 => h9) rfl dX3_reset_33 ?_
    refine lv_iload_n hx hb dX3_reset_36 rfl (lv_at hl 1 rfl) ?_
    have h_37 : vp_in (nI i) 32 := vp_in_nI (show i < 32 by omega) (by decide)
    refine va_iald hx hb hK T.1 2 2 rfl rfl h_37 dX3_reset_37 ?_
    refine W.eq (g2 := F0 m 38 ls [.int ((up2 S i 6 (S i 0)) i 1), .int (nI i), .ref (am 7)]) (by rw [nI_clamp (show i < 2 ^ 31 by omega)] <;> rfl) ?_
    have h_38 : vp_in (nI i) 32 := vp_in_nI (show i < 32 by omega) (by decide)
    refine va_iast (x := (up2 S i 6 (S i 0)) i 1) hx hb hK T.1 T.2.1 T.2.2 8 8 rfl rfl h_38 dX3_reset_38 (fun H locs hP hD hS => ?_)
    rw [nI_clamp (show i < 2 ^ 31 by omega)] at hP hD
    have T := md_set7 (i := i) (v := (up2 S i 6 (S i 0)) i 1) ⟨hP, hD, hS⟩
    refine lv_aload_n hx hb dX3_reset_39 rfl (lv_at hl 0 rfl) ?_
    refine va_get (D := D) (ci := 2) (v := .ref (am 8)) (C := RX3) (T := TX3) (N := 19) hx hb hts hinM hown hK T.1 0 rfl rfl 11 (by decide) (hts _ (List.mem_cons_of_mem _ k3_f35)) (fun _ h9 => h9) rfl dX3_reset_40 ?_
    refine lv_iload_n hx hb dX3_reset_43 rfl (lv_at hl 1 rfl) ?_
    refine lv_iconst (v := (-1)) hx hb dX3_reset_44 (by decide) ?_
    have h_45 : vp_in (nI i) 32 := vp_in_nI (show i < 32 by omega) (by decide)
    refine va_iast (x := (-1)) hx hb hK T.1 T.2.1 T.2.2 9 9 rfl rfl h_45 dX3_reset_45 (fun H locs hP hD hS => ?_)
    rw [nI_clamp (show i < 2 ^ 31 by omega)] at hP hD
    have T := md_set8 (i := i) (v := (-1)) ⟨hP, hD, hS⟩
    refine lv_aload_n hx hb dX3_reset_46 rfl (lv_at hl 0 rfl) ?_
    refine va_get (D := D) (ci := 2) (v := .ref (am 9)) (C := RX3) (T := TX3) (N := 19) hx hb hts hinM hown hK T.1 0 rfl rfl 12 (by decide) (hts _ (List.mem_cons_of_mem _ k3_f38)) (fun _ h9 => h9) rfl dX3_reset_47 ?_
    refine lv_iload_n hx hb dX3_reset_50 rfl (lv_at hl 1 rfl) ?_
    refine lv_iconst (v := 0) hx hb dX3_reset_51 (by decide) ?_
    have h_52 : vp_in (nI i) 32 := vp_in_nI (show i < 32 by omega) (by decide)
    refine va_iast (x := 0) hx hb hK T.1 T.2.1 T.2.2 10 10 rfl rfl h_52 dX3_reset_52 (fun H locs hP hD hS => ?_)
    rw [nI_clamp (show i < 2 ^ 31 by omega)] at hP hD
    have T := md_set9 (i := i) (v := 0) ⟨hP, hD, hS⟩
    refine lv_aload_n hx hb dX3_reset_53 rfl (lv_at hl 0 rfl) ?_
    refine va_get (D := D) (ci := 2) (v := .ref (am 10)) (C := RX3) (T := TX3) (N := 19) hx hb hts hinM hown hK T.1 0 rfl rfl 13 (by decide) (hts _ (List.mem_cons_of_mem _ k3_f41)) (fun _ h9 => h9) rfl dX3_reset_54 ?_
    refine lv_iload_n hx hb dX3_reset_57 rfl (lv_at hl 1 rfl) ?_
    refine lv_iconst (v := 0) hx hb dX3_reset_58 (by decide) ?_
    have h_59 : vp_in (nI i) 32 := vp_in_nI (show i < 32 by omega) (by decide)
    refine va_iast (x := 0) hx hb hK T.1 T.2.1 T.2.2 11 11 rfl rfl h_59 dX3_reset_59 (fun H locs hP hD hS => ?_)
    rw [nI_clamp (show i < 2 ^ 31 by omega)] at hP hD
    have T := md_set10 (i := i) (v := 0) ⟨hP, hD, hS⟩
    refine lv_aload_n hx hb dX3_reset_60 rfl (lv_at hl 0 rfl) ?_
    refine va_get (D := D) (ci := 2) (v := .ref (am 11)) (C := RX3) (T := TX3) (N := 19) hx hb hts hinM hown hK T.1 0 rfl rfl 14 (by decide) (hts _ (List.mem_cons_of_mem _ k3_f44)) (fun _ h9 => h9) rfl dX3_reset_61 ?_
    refine lv_iload_n hx hb dX3_reset_64 rfl (lv_at hl 1 rfl) ?_
    refine lv_iconst (v := (-1)) hx hb dX3_reset_65 (by decide) ?_
    have h_66 : vp_in (nI i) 32 := vp_in_nI (show i < 32 by omega) (by decide)
    refine va_iast (x := (-1)) hx hb hK T.1 T.2.1 T.2.2 12 12 rfl rfl h_66 dX3_reset_66 (fun H locs hP hD hS => ?_)
    rw [nI_clamp (show i < 2 ^ 31 by omega)] at hP hD
    have T := md_set11 (i := i) (v := (-1)) ⟨hP, hD, hS⟩
    refine lv_iinc (v := nI (i + 1)) (lv' := [(1, .int (nI (i + 1))), (0, .ref o)]) hx hb dX3_reset_67 hl (k := 1) rfl (nI_1 i) (by decide) rfl (fun ls hl => ?_)
    refine lv_goto (tgt := 7) hx hb dX3_reset_70 (by decide) ?_
    rw [show sm_reset_loop G (k + 1) i S = sm_reset_loop G k (i + 1) (up2 (up2 (up2 (up2 (up2 (up2 S i 6 (S i 0)) i 7 ((up2 S i 6 (S i 0)) i 1)) i 8 (-1)) i 9 0) i 10 0) i 11 (-1)) from by rw [sm_reset_loop]]
    exact ih (i + 1) _ (by omega) _ _ _ T (lv_sub hl [1, 0] rfl)
/-- reset, its picture -/
def sm_reset (G : Nat → Int32) (S : Nat → Nat → Int32) (n : Nat) : (Nat → Int32) × (Nat → Nat → Int32) := sm_reset_loop (upd G 3 0) n 0 S
set_option maxHeartbeats 4000000 in
set_option maxRecDepth 100000 in
theorem c_M_reset  (hG : hg_n G n) : MV l D (t0 :: md_tys cm) yX3_reset wsX3_reset { frames := 0, cells := 0, slots := 0, locals := 0 } [.ref o] (md_W o am cm G S B) (md_W o am cm (sm_reset G S n).1 (sm_reset G S n).2 B) := by
  refine MV.start (cc := cX3_reset) (maxL := 2) (by decide) rfl (Nat.le_of_ble_eq_true rfl) (fun p e s m args below meth c A ls C T hl => ?_)
  have hx := C.1.1
  have hb := C.1.2.1
  have hml := C.1.2.2.1
  have hown : s.vm.findClass RX3 = some m.cls := C.1.2.2.2.1
  have hts := C.1.2.2.2.2
  have hK := C.2.2.2.1
  have hinM : ∀ w ∈ wsX30, w ∈ wsX3_reset := fun w h => List.mem_cons_of_mem _ (inX3 w h)
  have hn32 := hG.1
  have hl : lv_has ls 2 [(0, .ref o)] := hl
  refine lv_aload_n hx hb dX3_reset_0 rfl (lv_at hl 0 rfl) ?_
  refine lv_iconst (v := 0) hx hb dX3_reset_1 (by decide) ?_
  refine va_put (D := D) (ci := 2) (v := .int 0) (ty := .int) (C := RX3) (T := TX3) (N := 19) hx hb hts hinM tyX3 tyX3_ok nmX3 hown hK T.1 T.2.1 T.2.2 0 rfl rfl 0 (by decide) (hts _ (List.mem_cons_of_mem _ k3_f54)) (fun _ h9 => h9) rfl (by decide +kernel) rfl rfl (Nat.le_of_ble_eq_true rfl) dX3_reset_2 (fun H locs hP hD hS => ?_)
  have T := md_setG (k := 3) (v := 0) (kk := 0) rfl ⟨hP, hD, hS⟩
  refine lv_iconst (v := 0) hx hb dX3_reset_5 (by decide) ?_
  refine lv_istore_n (lv' := [(1, .int 0), (0, .ref o)]) hx hb dX3_reset_6 rfl hl (by decide) rfl (fun ls hl => ?_)
  rw [show sm_reset G S n = sm_reset_loop (upd G 3 0) n 0 S from by rfl]
  exact lp_m_reset (hg_up (by decide) hG) C n 0 _ (by omega) _ _ _ T (lv_sub hl [1, 0] rfl)
/-- clear: its loop, by what is left to do -/
def sm_clear_loop (G : Nat → Int32) (S : Nat → Nat → Int32) (n : Nat) : Nat → Nat → (Nat → Int32) → (Nat → Int32) × (Nat → Nat → Int32) × (Nat → Int32)
  | 0, _, B => ((sm_reset G S n).1, (sm_reset G S n).2, B)
  | k + 1, i, B => sm_clear_loop G S n k (i + 1) (upd B i 0)
set_option maxHeartbeats 4000000 in
set_option maxRecDepth 100000 in
theorem lp_m_clear {p : Program} {e : Env} {s : State} {m : MethodId} {args : Array Value} {below : List Frame} {meth : Method} {c : Code} {A : Nat → Prop}   (hG : hg_n G n) (C : hw_C p s m args meth c cX3_clear none 2 wsX3_clear yX3_clear.cls D (t0 :: md_tys cm) A) :
    ∀ (k i : Nat) (B : Nat → Int32), i + k = 1024 → ∀ (ls : Array Slot) (H : Heap) (locs : List Loc), hw_T D A s.heap (md_W o am cm G S B) H locs → lv_has ls 2 [(0, .ref o), (1, .int (nI i))] → W p l e { frames := 1, cells := 0, slots := 0, locals := 21 } s m args below meth c H locs 0 0 (MQ below (va_Qv (fun (_ : Unit) => True) (fun _ t => va_P D vwCl (md_W o am cm (sm_clear_loop G S n k i B).1 (sm_clear_loop G S n k i B).2.1 (sm_clear_loop G S n k i B).2.2) t.heap) A) args s 0 0 A) (F0 m 17 ls []) := by
  have hx := C.1.1
  have hb := C.1.2.1
  have hml := C.1.2.2.1
  have hown : s.vm.findClass RX3 = some m.cls := C.1.2.2.2.1
  have hts := C.1.2.2.2.2
  have hK := C.2.2.2.1
  have hinM : ∀ w ∈ wsX30, w ∈ wsX3_clear := fun w h => List.mem_cons_of_mem _ (inX3 w h)
  intro k
  induction k with
  | zero =>
    intro i B hik ls H locs T hl
    refine lv_iload_n hx hb dX3_clear_17 rfl (lv_at hl 1 rfl) ?_
    refine lv_sipush (v := 1024) hx hb dX3_clear_18 (by decide) ?_
    refine lv_icmp_ge (tgt := 37) hx hb dX3_clear_21 (by decide) (fun c_21 => ?_) (fun c_21 => absurd (show (1024 : Int32) ≤ nI i from nI_le (a := 1024) (by omega) (by omega)) c_21)
    refine lv_aload_n hx hb dX3_clear_37 rfl (lv_at hl 0 rfl) ?_
    refine hw_Vv (As := []) (rest := []) C T (c_M_reset hG) (cwV 0 hts (x3_in k3_m60 k3_i_reset k3_s_reset k3_ini k3_c_reset) rfl rfl rfl (by decide +kernel) ⟨Nat.le_of_ble_eq_true rfl, Nat.le_of_ble_eq_true rfl⟩) md_isO md_ad rfl hl.1 rfl (Nat.le_of_ble_eq_true rfl) dX3_clear_38 ⟨Nat.zero_le _, Nat.zero_le _⟩ (fun H locs T => ?_)
    have e9 : sm_clear_loop G S n 0 i B = ((sm_reset G S n).1, (sm_reset G S n).2, B) := by rw [sm_clear_loop]
    exact hw_vret C T (by rw [e9]) dX3_clear_41
  | succ k ih =>
    intro i B hik ls H locs T hl
    refine lv_iload_n hx hb dX3_clear_17 rfl (lv_at hl 1 rfl) ?_
    refine lv_sipush (v := 1024) hx hb dX3_clear_18 (by decide) ?_
    refine lv_icmp_ge (tgt := 37) hx hb dX3_clear_21 (by decide) (fun c_21 => absurd c_21 (show ¬ (1024 : Int32) ≤ nI i from nI_ge (b := 1024) (show i < 1024 by omega) (by decide))) (fun c_21 => ?_)
    refine lv_aload_n hx hb dX3_clear_24 rfl (lv_at hl 0 rfl) ?_
    refine va_get (D := D) (ci := 2) (v := .ref (am 5)) (C := RX3) (T := TX3) (N := 19) hx hb hts hinM hown hK T.1 0 rfl rfl 7 (by decide) (hts _ (List.mem_cons_of_mem _ k3_f25)) (fun _ h9 => h9) rfl dX3_clear_25 ?_
    refine lv_iload_n hx hb dX3_clear_28 rfl (lv_at hl 1 rfl) ?_
    refine lv_iconst (v := 0) hx hb dX3_clear_29 (by decide) ?_
    have h_30 : vp_in (nI i) 1024 := vp_in_nI (show i < 1024 by omega) (by decide)
    refine va_zast (x := 0) hx hb hK T.1 T.2.1 T.2.2 6 6 rfl rfl h_30 dX3_clear_30 (fun H locs hP hD hS => ?_)
    rw [nI_clamp (show i < 2 ^ 31 by omega)] at hP hD
    have T := md_setB (i := i) (v := 0) ⟨hP, hD, hS⟩
    refine lv_iinc (v := nI (i + 1)) (lv' := [(1, .int (nI (i + 1))), (0, .ref o)]) hx hb dX3_clear_31 hl (k := 1) rfl (nI_1 i) (by decide) rfl (fun ls hl => ?_)
    refine lv_goto (tgt := 17) hx hb dX3_clear_34 (by decide) ?_
    rw [show sm_clear_loop G S n (k + 1) i B = sm_clear_loop G S n k (i + 1) (upd B i 0) from by rw [sm_clear_loop]]
    exact ih (i + 1) _ (by omega) _ _ _ T (lv_sub hl [1, 0] rfl)
/-- clear, its picture -/
def sm_clear (G : Nat → Int32) (S : Nat → Nat → Int32) (B : Nat → Int32) : (Nat → Int32) × (Nat → Nat → Int32) × (Nat → Int32) := sm_clear_loop (upd (upd (upd G 3 0) 0 0) 1 0) S 0 1024 0 B
set_option maxHeartbeats 4000000 in
set_option maxRecDepth 100000 in
theorem c_M_clear   : MV l D (t0 :: md_tys cm) yX3_clear wsX3_clear { frames := 1, cells := 0, slots := 0, locals := 21 } [.ref o] (md_W o am cm G S B) (md_W o am cm (sm_clear G S B).1 (sm_clear G S B).2.1 (sm_clear G S B).2.2) := by
  refine MV.start (cc := cX3_clear) (maxL := 2) (by decide) rfl (Nat.le_of_ble_eq_true rfl) (fun p e s m args below meth c A ls C T hl => ?_)
  have hx := C.1.1
  have hb := C.1.2.1
  have hml := C.1.2.2.1
  have hown : s.vm.findClass RX3 = some m.cls := C.1.2.2.2.1
  have hts := C.1.2.2.2.2
  have hK := C.2.2.2.1
  have hinM : ∀ w ∈ wsX30, w ∈ wsX3_clear := fun w h => List.mem_cons_of_mem _ (inX3 w h)
  have hl : lv_has ls 2 [(0, .ref o)] := hl
  refine lv_aload_n hx hb dX3_clear_0 rfl (lv_at hl 0 rfl) ?_
  refine lv_iconst (v := 0) hx hb dX3_clear_1 (by decide) ?_
  refine va_put (D := D) (ci := 2) (v := .int 0) (ty := .int) (C := RX3) (T := TX3) (N := 19) hx hb hts hinM tyX3 tyX3_ok nmX3 hown hK T.1 T.2.1 T.2.2 0 rfl rfl 0 (by decide) (hts _ (List.mem_cons_of_mem _ k3_f54)) (fun _ h9 => h9) rfl (by decide +kernel) rfl rfl (Nat.le_of_ble_eq_true rfl) dX3_clear_2 (fun H locs hP hD hS => ?_)
  have T := md_setG (k := 3) (v := 0) (kk := 0) rfl ⟨hP, hD, hS⟩
  refine lv_aload_n hx hb dX3_clear_5 rfl (lv_at hl 0 rfl) ?_
  refine lv_iconst (v := 0) hx hb dX3_clear_6 (by decide) ?_
  refine va_put (D := D) (ci := 2) (v := .int 0) (ty := .int) (C := RX3) (T := TX3) (N := 19) hx hb hts hinM tyX3 tyX3_ok nmX3 hown hK T.1 T.2.1 T.2.2 0 rfl rfl 1 (by decide) (hts _ (List.mem_cons_of_mem _ k3_f57)) (fun _ h9 => h9) rfl (by decide +kernel) rfl rfl (Nat.le_of_ble_eq_true rfl) dX3_clear_7 (fun H locs hP hD hS => ?_)
  have T := md_setG (k := 0) (v := 0) (kk := 1) rfl ⟨hP, hD, hS⟩
  refine lv_aload_n hx hb dX3_clear_10 rfl (lv_at hl 0 rfl) ?_
  refine lv_iconst (v := 0) hx hb dX3_clear_11 (by decide) ?_
  refine va_put (D := D) (ci := 2) (v := .int 0) (ty := .int) (C := RX3) (T := TX3) (N := 19) hx hb hts hinM tyX3 tyX3_ok nmX3 hown hK T.1 T.2.1 T.2.2 0 rfl rfl 8 (by decide) (hts _ (List.mem_cons_of_mem _ k3_f67)) (fun _ h9 => h9) rfl (by decide +kernel) rfl rfl (Nat.le_of_ble_eq_true rfl) dX3_clear_12 (fun H locs hP hD hS => ?_)
  have T := md_setG (k := 1) (v := 0) (kk := 8) rfl ⟨hP, hD, hS⟩
  refine lv_iconst (v := 0) hx hb dX3_clear_15 (by decide) ?_
  refine lv_istore_n (lv' := [(1, .int 0), (0, .ref o)]) hx hb dX3_clear_16 rfl hl (by decide) rfl (fun ls hl => ?_)
  rw [show sm_clear G S B = sm_clear_loop (upd (upd (upd G 3 0) 0 0) 1 0) S 0 1024 0 B from by rfl]
  exact lp_m_clear (hg_up (by decide) (hg_0 (G := upd G 3 0))) C 1024 0 _ (by omega) _ _ _ T (lv_sub hl [1, 0] rfl)
/-- sector, its picture -/
def sm_sector (G : Nat → Int32) (S : Nat → Nat → Int32) (n : Nat) (x1 : Int32) (x2 : Int32) (x3 : Int32) (x4 : Int32) (x5 : Int32) : Int32 × (Nat → Int32) × (Nat → Nat → Int32) := if x1 < (-1024) then ((-1), upd G 3 0, S) else (if 1024 < x2 then ((-1), upd G 3 0, S) else (if x2 ≤ x1 then ((-1), upd G 3 0, S) else (if x3 < 0 then ((-1), upd G 3 0, S) else (if 16 ≤ x3 then ((-1), upd G 3 0, S) else (if x4 < 0 then ((-1), upd G 3 0, S) else (if 4 ≤ x4 then ((-1), upd G 3 0, S) else (if x5 < 0 then ((-1), upd G 3 0, S) else (if 256 ≤ x5 then ((-1), upd G 3 0, S) else (if 32 ≤ ((upd G 3 0) 0) then ((-1), upd G 3 0, S) else ((((sm_reset (upd (upd G 3 0) 0 (((upd G 3 0) 0) + 1)) (up2 (up2 (up2 (up2 (up2 S (((upd G 3 0) 0).toNatClampNeg) 0 x1) (((upd G 3 0) 0).toNatClampNeg) 1 x2) (((upd G 3 0) 0).toNatClampNeg) 2 x3) (((upd G 3 0) 0).toNatClampNeg) 3 x4) (((upd G 3 0) 0).toNatClampNeg) 4 x5) (n + 1)).1) 0) - 1, (sm_reset (upd (upd G 3 0) 0 (((upd G 3 0) 0) + 1)) (up2 (up2 (up2 (up2 (up2 S (((upd G 3 0) 0).toNatClampNeg) 0 x1) (((upd G 3 0) 0).toNatClampNeg) 1 x2) (((upd G 3 0) 0).toNatClampNeg) 2 x3) (((upd G 3 0) 0).toNatClampNeg) 3 x4) (((upd G 3 0) 0).toNatClampNeg) 4 x5) (n + 1)).1, (sm_reset (upd (upd G 3 0) 0 (((upd G 3 0) 0) + 1)) (up2 (up2 (up2 (up2 (up2 S (((upd G 3 0) 0).toNatClampNeg) 0 x1) (((upd G 3 0) 0).toNatClampNeg) 1 x2) (((upd G 3 0) 0).toNatClampNeg) 2 x3) (((upd G 3 0) 0).toNatClampNeg) 3 x4) (((upd G 3 0) 0).toNatClampNeg) 4 x5) (n + 1)).2))))))))))
set_option maxHeartbeats 4000000 in
set_option maxRecDepth 100000 in
theorem c_M_sector {x1 : Int32} {x2 : Int32} {x3 : Int32} {x4 : Int32} {x5 : Int32} (hG : hg_n G n) : MI l D (t0 :: md_tys cm) yX3_sector wsX3_sector { frames := 1, cells := 0, slots := 0, locals := 21 } [.ref o, .int x1, .int x2, .int x3, .int x4, .int x5] (md_W o am cm G S B) ((sm_sector G S n x1 x2 x3 x4 x5).1) (md_W o am cm (sm_sector G S n x1 x2 x3 x4 x5).2.1 (sm_sector G S n x1 x2 x3 x4 x5).2.2 B) := by
  refine MI.start (cc := cX3_sector) (maxL := 7) (by decide) rfl (Nat.le_of_ble_eq_true rfl) (fun p e s m args below meth c A ls C T hl => ?_)
  have hx := C.1.1
  have hb := C.1.2.1
  have hml := C.1.2.2.1
  have hown : s.vm.findClass RX3 = some m.cls := C.1.2.2.2.1
  have hts := C.1.2.2.2.2
  have hK := C.2.2.2.1
  have hinM : ∀ w ∈ wsX30, w ∈ wsX3_sector := fun w h => List.mem_cons_of_mem _ (inX3 w h)
  have hn32 := hG.1
  have hl : lv_has ls 7 [(0, .ref o), (1, .int x1), (2, .int x2), (3, .int x3), (4, .int x4), (5, .int x5)] := hl
  refine lv_aload_n hx hb dX3_sector_0 rfl (lv_at hl 0 rfl) ?_
  refine lv_iconst (v := 0) hx hb dX3_sector_1 (by decide) ?_
  refine va_put (D := D) (ci := 2) (v := .int 0) (ty := .int) (C := RX3) (T := TX3) (N := 19) hx hb hts hinM tyX3 tyX3_ok nmX3 hown hK T.1 T.2.1 T.2.2 0 rfl rfl 0 (by decide) (hts _ (List.mem_cons_of_mem _ k3_f54)) (fun _ h9 => h9) rfl (by decide +kernel) rfl rfl (Nat.le_of_ble_eq_true rfl) dX3_sector_2 (fun H locs hP hD hS => ?_)
  have T := md_setG (k := 3) (v := 0) (kk := 0) rfl ⟨hP, hD, hS⟩
  refine lv_iload_n hx hb dX3_sector_5 rfl (lv_at hl 1 rfl) ?_
  refine lv_sipush (v := (-1024)) hx hb dX3_sector_6 (by decide) ?_
  refine lv_icmp_lt (tgt := 71) hx hb dX3_sector_9 (by decide) (fun c_9 => ?_) (fun c_9 => ?_)
  · skip
    refine lv_iconst (v := 0) hx hb dX3_sector_71 (by decide) ?_
    refine lv_istore (lv' := [(6, .int 0), (0, .ref o), (1, .int x1), (2, .int x2), (3, .int x3), (4, .int x4), (5, .int x5)]) hx hb dX3_sector_72 hl (by decide) rfl (fun ls hl => ?_)
    refine lv_iload hx hb dX3_sector_74 (lv_at hl 0 rfl) ?_
    refine lv_if_ne (tgt := 81) hx hb dX3_sector_76 (by decide) (fun c_76 => absurd c_76 (by decide)) (fun _ => ?_)
    refine lv_iconst (v := (-1)) hx hb dX3_sector_79 (by decide) ?_
    have e9 : sm_sector G S n x1 x2 x3 x4 x5 = ((-1), upd G 3 0, S) := by unfold sm_sector; simp only [if_pos c_9]
    exact hw_iret C T rfl (by rw [e9]) (by rw [e9]) dX3_sector_80
  · skip
    refine lv_iload_n hx hb dX3_sector_12 rfl (lv_at hl 2 rfl) ?_
    refine lv_sipush (v := 1024) hx hb dX3_sector_13 (by decide) ?_
    refine lv_icmp_gt (tgt := 71) hx hb dX3_sector_16 (by decide) (fun c_16 => ?_) (fun c_16 => ?_)
    · skip
      refine lv_iconst (v := 0) hx hb dX3_sector_71 (by decide) ?_
      refine lv_istore (lv' := [(6, .int 0), (0, .ref o), (1, .int x1), (2, .int x2), (3, .int x3), (4, .int x4), (5, .int x5)]) hx hb dX3_sector_72 hl (by decide) rfl (fun ls hl => ?_)
      refine lv_iload hx hb dX3_sector_74 (lv_at hl 0 rfl) ?_
      refine lv_if_ne (tgt := 81) hx hb dX3_sector_76 (by decide) (fun c_76 => absurd c_76 (by decide)) (fun _ => ?_)
      refine lv_iconst (v := (-1)) hx hb dX3_sector_79 (by decide) ?_
      have e9 : sm_sector G S n x1 x2 x3 x4 x5 = ((-1), upd G 3 0, S) := by unfold sm_sector; simp only [if_neg c_9, if_pos c_16]
      exact hw_iret C T rfl (by rw [e9]) (by rw [e9]) dX3_sector_80
    · skip
      refine lv_iload_n hx hb dX3_sector_19 rfl (lv_at hl 2 rfl) ?_
      refine lv_iload_n hx hb dX3_sector_20 rfl (lv_at hl 1 rfl) ?_
      refine lv_icmp_le (tgt := 71) hx hb dX3_sector_21 (by decide) (fun c_21 => ?_) (fun c_21 => ?_)
      · skip
        refine lv_iconst (v := 0) hx hb dX3_sector_71 (by decide) ?_
        refine lv_istore (lv' := [(6, .int 0), (0, .ref o), (1, .int x1), (2, .int x2), (3, .int x3), (4, .int x4), (5, .int x5)]) hx hb dX3_sector_72 hl (by decide) rfl (fun ls hl => ?_)
        refine lv_iload hx hb dX3_sector_74 (lv_at hl 0 rfl) ?_
        refine lv_if_ne (tgt := 81) hx hb dX3_sector_76 (by decide) (fun c_76 => absurd c_76 (by decide)) (fun _ => ?_)
        refine lv_iconst (v := (-1)) hx hb dX3_sector_79 (by decide) ?_
        have e9 : sm_sector G S n x1 x2 x3 x4 x5 = ((-1), upd G 3 0, S) := by unfold sm_sector; simp only [if_neg c_9, if_neg c_16, if_pos c_21]
        exact hw_iret C T rfl (by rw [e9]) (by rw [e9]) dX3_sector_80
      · skip
        refine lv_iload_n hx hb dX3_sector_24 rfl (lv_at hl 3 rfl) ?_
        refine lv_if_lt (tgt := 71) hx hb dX3_sector_25 (by decide) (fun c_25 => ?_) (fun c_25 => ?_)
        · skip
          refine lv_iconst (v := 0) hx hb dX3_sector_71 (by decide) ?_
          refine lv_istore (lv' := [(6, .int 0), (0, .ref o), (1, .int x1), (2, .int x2), (3, .int x3), (4, .int x4), (5, .int x5)]) hx hb dX3_sector_72 hl (by decide) rfl (fun ls hl => ?_)
          refine lv_iload hx hb dX3_sector_74 (lv_at hl 0 rfl) ?_
          refine lv_if_ne (tgt := 81) hx hb dX3_sector_76 (by decide) (fun c_76 => absurd c_76 (by decide)) (fun _ => ?_)
          refine lv_iconst (v := (-1)) hx hb dX3_sector_79 (by decide) ?_
          have e9 : sm_sector G S n x1 x2 x3 x4 x5 = ((-1), upd G 3 0, S) := by unfold sm_sector; simp only [if_neg c_9, if_neg c_16, if_neg c_21, if_pos c_25]
          exact hw_iret C T rfl (by rw [e9]) (by rw [e9]) dX3_sector_80
        · skip
          refine lv_iload_n hx hb dX3_sector_28 rfl (lv_at hl 3 rfl) ?_
          refine lv_bipush (v := 16) hx hb dX3_sector_29 (by decide) ?_
          refine lv_icmp_ge (tgt := 71) hx hb dX3_sector_31 (by decide) (fun c_31 => ?_) (fun c_31 => ?_)
          · skip
            refine lv_iconst (v := 0) hx hb dX3_sector_71 (by decide) ?_
            refine lv_istore (lv' := [(6, .int 0), (0, .ref o), (1, .int x1), (2, .int x2), (3, .int x3), (4, .int x4), (5, .int x5)]) hx hb dX3_sector_72 hl (by decide) rfl (fun ls hl => ?_)
            refine lv_iload hx hb dX3_sector_74 (lv_at hl 0 rfl) ?_
            refine lv_if_ne (tgt := 81) hx hb dX3_sector_76 (by decide) (fun c_76 => absurd c_76 (by decide)) (fun _ => ?_)
            refine lv_iconst (v := (-1)) hx hb dX3_sector_79 (by decide) ?_
            have e9 : sm_sector G S n x1 x2 x3 x4 x5 = ((-1), upd G 3 0, S) := by unfold sm_sector; simp only [if_neg c_9, if_neg c_16, if_neg c_21, if_neg c_25, if_pos c_31]
            exact hw_iret C T rfl (by rw [e9]) (by rw [e9]) dX3_sector_80
          · skip
            refine lv_iload hx hb dX3_sector_34 (lv_at hl 4 rfl) ?_
            refine lv_if_lt (tgt := 71) hx hb dX3_sector_36 (by decide) (fun c_36 => ?_) (fun c_36 => ?_)
            · skip
              refine lv_iconst (v := 0) hx hb dX3_sector_71 (by decide) ?_
              refine lv_istore (lv' := [(6, .int 0), (0, .ref o), (1, .int x1), (2, .int x2), (3, .int x3), (4, .int x4), (5, .int x5)]) hx hb dX3_sector_72 hl (by decide) rfl (fun ls hl => ?_)
              refine lv_iload hx hb dX3_sector_74 (lv_at hl 0 rfl) ?_
              refine lv_if_ne (tgt := 81) hx hb dX3_sector_76 (by decide) (fun c_76 => absurd c_76 (by decide)) (fun _ => ?_)
              refine lv_iconst (v := (-1)) hx hb dX3_sector_79 (by decide) ?_
              have e9 : sm_sector G S n x1 x2 x3 x4 x5 = ((-1), upd G 3 0, S) := by unfold sm_sector; simp only [if_neg c_9, if_neg c_16, if_neg c_21, if_neg c_25, if_neg c_31, if_pos c_36]
              exact hw_iret C T rfl (by rw [e9]) (by rw [e9]) dX3_sector_80
            · skip
              refine lv_iload hx hb dX3_sector_39 (lv_at hl 4 rfl) ?_
              refine lv_iconst (v := 4) hx hb dX3_sector_41 (by decide) ?_
              refine lv_icmp_ge (tgt := 71) hx hb dX3_sector_42 (by decide) (fun c_42 => ?_) (fun c_42 => ?_)
              · skip
                refine lv_iconst (v := 0) hx hb dX3_sector_71 (by decide) ?_
                refine lv_istore (lv' := [(6, .int 0), (0, .ref o), (1, .int x1), (2, .int x2), (3, .int x3), (4, .int x4), (5, .int x5)]) hx hb dX3_sector_72 hl (by decide) rfl (fun ls hl => ?_)
                refine lv_iload hx hb dX3_sector_74 (lv_at hl 0 rfl) ?_
                refine lv_if_ne (tgt := 81) hx hb dX3_sector_76 (by decide) (fun c_76 => absurd c_76 (by decide)) (fun _ => ?_)
                refine lv_iconst (v := (-1)) hx hb dX3_sector_79 (by decide) ?_
                have e9 : sm_sector G S n x1 x2 x3 x4 x5 = ((-1), upd G 3 0, S) := by unfold sm_sector; simp only [if_neg c_9, if_neg c_16, if_neg c_21, if_neg c_25, if_neg c_31, if_neg c_36, if_pos c_42]
                exact hw_iret C T rfl (by rw [e9]) (by rw [e9]) dX3_sector_80
              · skip
                refine lv_iload hx hb dX3_sector_45 (lv_at hl 5 rfl) ?_
                refine lv_if_lt (tgt := 71) hx hb dX3_sector_47 (by decide) (fun c_47 => ?_) (fun c_47 => ?_)
                · skip
                  refine lv_iconst (v := 0) hx hb dX3_sector_71 (by decide) ?_
                  refine lv_istore (lv' := [(6, .int 0), (0, .ref o), (1, .int x1), (2, .int x2), (3, .int x3), (4, .int x4), (5, .int x5)]) hx hb dX3_sector_72 hl (by decide) rfl (fun ls hl => ?_)
                  refine lv_iload hx hb dX3_sector_74 (lv_at hl 0 rfl) ?_
                  refine lv_if_ne (tgt := 81) hx hb dX3_sector_76 (by decide) (fun c_76 => absurd c_76 (by decide)) (fun _ => ?_)
                  refine lv_iconst (v := (-1)) hx hb dX3_sector_79 (by decide) ?_
                  have e9 : sm_sector G S n x1 x2 x3 x4 x5 = ((-1), upd G 3 0, S) := by unfold sm_sector; simp only [if_neg c_9, if_neg c_16, if_neg c_21, if_neg c_25, if_neg c_31, if_neg c_36, if_neg c_42, if_pos c_47]
                  exact hw_iret C T rfl (by rw [e9]) (by rw [e9]) dX3_sector_80
                · skip
                  refine lv_iload hx hb dX3_sector_50 (lv_at hl 5 rfl) ?_
                  refine lv_sipush (v := 256) hx hb dX3_sector_52 (by decide) ?_
                  refine lv_icmp_ge (tgt := 71) hx hb dX3_sector_55 (by decide) (fun c_55 => ?_) (fun c_55 => ?_)
                  · skip
                    refine lv_iconst (v := 0) hx hb dX3_sector_71 (by decide) ?_
                    refine lv_istore (lv' := [(6, .int 0), (0, .ref o), (1, .int x1), (2, .int x2), (3, .int x3), (4, .int x4), (5, .int x5)]) hx hb dX3_sector_72 hl (by decide) rfl (fun ls hl => ?_)
                    refine lv_iload hx hb dX3_sector_74 (lv_at hl 0 rfl) ?_
                    refine lv_if_ne (tgt := 81) hx hb dX3_sector_76 (by decide) (fun c_76 => absurd c_76 (by decide)) (fun _ => ?_)
                    refine lv_iconst (v := (-1)) hx hb dX3_sector_79 (by decide) ?_
                    have e9 : sm_sector G S n x1 x2 x3 x4 x5 = ((-1), upd G 3 0, S) := by unfold sm_sector; simp only [if_neg c_9, if_neg c_16, if_neg c_21, if_neg c_25, if_neg c_31, if_neg c_36, if_neg c_42, if_neg c_47, if_pos c_55]
                    exact hw_iret C T rfl (by rw [e9]) (by rw [e9]) dX3_sector_80
                  · skip
                    refine lv_aload_n hx hb dX3_sector_58 rfl (lv_at hl 0 rfl) ?_
                    refine va_get (D := D) (ci := 2) (v := .int ((upd G 3 0) 0)) (C := RX3) (T := TX3) (N := 19) hx hb hts hinM hown hK T.1 0 rfl rfl 1 (by decide) (hts _ (List.mem_cons_of_mem _ k3_f57)) (fun _ h9 => h9) rfl dX3_sector_59 ?_
                    refine lv_bipush (v := 32) hx hb dX3_sector_62 (by decide) ?_
                    refine lv_icmp_ge (tgt := 71) hx hb dX3_sector_64 (by decide) (fun c_64 => ?_) (fun c_64 => ?_)
                    · skip
                      refine lv_iconst (v := 0) hx hb dX3_sector_71 (by decide) ?_
                      refine lv_istore (lv' := [(6, .int 0), (0, .ref o), (1, .int x1), (2, .int x2), (3, .int x3), (4, .int x4), (5, .int x5)]) hx hb dX3_sector_72 hl (by decide) rfl (fun ls hl => ?_)
                      refine lv_iload hx hb dX3_sector_74 (lv_at hl 0 rfl) ?_
                      refine lv_if_ne (tgt := 81) hx hb dX3_sector_76 (by decide) (fun c_76 => absurd c_76 (by decide)) (fun _ => ?_)
                      refine lv_iconst (v := (-1)) hx hb dX3_sector_79 (by decide) ?_
                      have e9 : sm_sector G S n x1 x2 x3 x4 x5 = ((-1), upd G 3 0, S) := by unfold sm_sector; simp only [if_neg c_9, if_neg c_16, if_neg c_21, if_neg c_25, if_neg c_31, if_neg c_36, if_neg c_42, if_neg c_47, if_neg c_55, if_pos c_64]
                      exact hw_iret C T rfl (by rw [e9]) (by rw [e9]) dX3_sector_80
                    · skip
                      refine lv_iconst (v := 1) hx hb dX3_sector_67 (by decide) ?_
                      refine lv_goto (tgt := 72) hx hb dX3_sector_68 (by decide) ?_
                      refine lv_istore (lv' := [(6, .int 1), (0, .ref o), (1, .int x1), (2, .int x2), (3, .int x3), (4, .int x4), (5, .int x5)]) hx hb dX3_sector_72 hl (by decide) rfl (fun ls hl => ?_)
                      refine lv_iload hx hb dX3_sector_74 (lv_at hl 0 rfl) ?_
                      refine lv_if_ne (tgt := 81) hx hb dX3_sector_76 (by decide) (fun _ => ?_) (fun c_76 => absurd c_76 (by decide))
                      refine lv_aload_n hx hb dX3_sector_81 rfl (lv_at hl 1 rfl) ?_
                      refine va_get (D := D) (ci := 2) (v := .ref (am 0)) (C := RX3) (T := TX3) (N := 19) hx hb hts hinM hown hK T.1 0 rfl rfl 2 (by decide) (hts _ (List.mem_cons_of_mem _ k3_f7)) (fun _ h9 => h9) rfl dX3_sector_82 ?_
                      refine lv_aload_n hx hb dX3_sector_85 rfl (lv_at hl 1 rfl) ?_
                      refine va_get (D := D) (ci := 2) (v := .int ((upd G 3 0) 0)) (C := RX3) (T := TX3) (N := 19) hx hb hts hinM hown hK T.1 0 rfl rfl 1 (by decide) (hts _ (List.mem_cons_of_mem _ k3_f57)) (fun _ h9 => h9) rfl dX3_sector_86 ?_
                      refine lv_iload_n hx hb dX3_sector_89 rfl (lv_at hl 2 rfl) ?_
                      have h_90 : vp_in ((upd G 3 0) 0) 32 := (sx_in0 (hg_up (by decide) hG) c_64)
                      refine va_iast (x := x1) hx hb hK T.1 T.2.1 T.2.2 1 1 rfl rfl h_90 dX3_sector_90 (fun H locs hP hD hS => ?_)
                      have T := md_set0 (i := ((upd G 3 0) 0).toNatClampNeg) (v := x1) ⟨hP, hD, hS⟩
                      refine lv_aload_n hx hb dX3_sector_91 rfl (lv_at hl 1 rfl) ?_
                      refine va_get (D := D) (ci := 2) (v := .ref (am 1)) (C := RX3) (T := TX3) (N := 19) hx hb hts hinM hown hK T.1 0 rfl rfl 3 (by decide) (hts _ (List.mem_cons_of_mem _ k3_f13)) (fun _ h9 => h9) rfl dX3_sector_92 ?_
                      refine lv_aload_n hx hb dX3_sector_95 rfl (lv_at hl 1 rfl) ?_
                      refine va_get (D := D) (ci := 2) (v := .int ((upd G 3 0) 0)) (C := RX3) (T := TX3) (N := 19) hx hb hts hinM hown hK T.1 0 rfl rfl 1 (by decide) (hts _ (List.mem_cons_of_mem _ k3_f57)) (fun _ h9 => h9) rfl dX3_sector_96 ?_
                      refine lv_iload_n hx hb dX3_sector_99 rfl (lv_at hl 3 rfl) ?_
                      have h_100 : vp_in ((upd G 3 0) 0) 32 := (sx_in0 (hg_up (by decide) hG) c_64)
                      refine va_iast (x := x2) hx hb hK T.1 T.2.1 T.2.2 2 2 rfl rfl h_100 dX3_sector_100 (fun H locs hP hD hS => ?_)
                      have T := md_set1 (i := ((upd G 3 0) 0).toNatClampNeg) (v := x2) ⟨hP, hD, hS⟩
                      refine lv_aload_n hx hb dX3_sector_101 rfl (lv_at hl 1 rfl) ?_
                      refine va_get (D := D) (ci := 2) (v := .ref (am 2)) (C := RX3) (T := TX3) (N := 19) hx hb hts hinM hown hK T.1 0 rfl rfl 4 (by decide) (hts _ (List.mem_cons_of_mem _ k3_f16)) (fun _ h9 => h9) rfl dX3_sector_102 ?_
                      refine lv_aload_n hx hb dX3_sector_105 rfl (lv_at hl 1 rfl) ?_
                      refine va_get (D := D) (ci := 2) (v := .int ((upd G 3 0) 0)) (C := RX3) (T := TX3) (N := 19) hx hb hts hinM hown hK T.1 0 rfl rfl 1 (by decide) (hts _ (List.mem_cons_of_mem _ k3_f57)) (fun _ h9 => h9) rfl dX3_sector_106 ?_
                      refine lv_iload_n hx hb dX3_sector_109 rfl (lv_at hl 4 rfl) ?_
                      have h_110 : vp_in ((upd G 3 0) 0) 32 := (sx_in0 (hg_up (by decide) hG) c_64)
                      refine va_iast (x := x3) hx hb hK T.1 T.2.1 T.2.2 3 3 rfl rfl h_110 dX3_sector_110 (fun H locs hP hD hS => ?_)
                      have T := md_set2 (i := ((upd G 3 0) 0).toNatClampNeg) (v := x3) ⟨hP, hD, hS⟩
                      refine lv_aload_n hx hb dX3_sector_111 rfl (lv_at hl 1 rfl) ?_
                      refine va_get (D := D) (ci := 2) (v := .ref (am 3)) (C := RX3) (T := TX3) (N := 19) hx hb hts hinM hown hK T.1 0 rfl rfl 5 (by decide) (hts _ (List.mem_cons_of_mem _ k3_f19)) (fun _ h9 => h9) rfl dX3_sector_112 ?_
                      refine lv_aload_n hx hb dX3_sector_115 rfl (lv_at hl 1 rfl) ?_
                      refine va_get (D := D) (ci := 2) (v := .int ((upd G 3 0) 0)) (C := RX3) (T := TX3) (N := 19) hx hb hts hinM hown hK T.1 0 rfl rfl 1 (by decide) (hts _ (List.mem_cons_of_mem _ k3_f57)) (fun _ h9 => h9) rfl dX3_sector_116 ?_
                      refine lv_iload hx hb dX3_sector_119 (lv_at hl 5 rfl) ?_
                      have h_121 : vp_in ((upd G 3 0) 0) 32 := (sx_in0 (hg_up (by decide) hG) c_64)
                      refine va_iast (x := x4) hx hb hK T.1 T.2.1 T.2.2 4 4 rfl rfl h_121 dX3_sector_121 (fun H locs hP hD hS => ?_)
                      have T := md_set3 (i := ((upd G 3 0) 0).toNatClampNeg) (v := x4) ⟨hP, hD, hS⟩
                      refine lv_aload_n hx hb dX3_sector_122 rfl (lv_at hl 1 rfl) ?_
                      refine va_get (D := D) (ci := 2) (v := .ref (am 4)) (C := RX3) (T := TX3) (N := 19) hx hb hts hinM hown hK T.1 0 rfl rfl 6 (by decide) (hts _ (List.mem_cons_of_mem _ k3_f22)) (fun _ h9 => h9) rfl dX3_sector_123 ?_
                      refine lv_aload_n hx hb dX3_sector_126 rfl (lv_at hl 1 rfl) ?_
                      refine va_get (D := D) (ci := 2) (v := .int ((upd G 3 0) 0)) (C := RX3) (T := TX3) (N := 19) hx hb hts hinM hown hK T.1 0 rfl rfl 1 (by decide) (hts _ (List.mem_cons_of_mem _ k3_f57)) (fun _ h9 => h9) rfl dX3_sector_127 ?_
                      refine lv_iload hx hb dX3_sector_130 (lv_at hl 6 rfl) ?_
                      have h_132 : vp_in ((upd G 3 0) 0) 32 := (sx_in0 (hg_up (by decide) hG) c_64)
                      refine va_iast (x := x5) hx hb hK T.1 T.2.1 T.2.2 5 5 rfl rfl h_132 dX3_sector_132 (fun H locs hP hD hS => ?_)
                      have T := md_set4 (i := ((upd G 3 0) 0).toNatClampNeg) (v := x5) ⟨hP, hD, hS⟩
                      refine lv_aload_n hx hb dX3_sector_133 rfl (lv_at hl 1 rfl) ?_
                      refine lv_dup hx hb dX3_sector_134 rfl ?_
                      refine va_get (D := D) (ci := 2) (v := .int ((upd G 3 0) 0)) (C := RX3) (T := TX3) (N := 19) hx hb hts hinM hown hK T.1 0 rfl rfl 1 (by decide) (hts _ (List.mem_cons_of_mem _ k3_f57)) (fun _ h9 => h9) rfl dX3_sector_135 ?_
                      refine lv_iconst (v := 1) hx hb dX3_sector_138 (by decide) ?_
                      refine lv_iadd hx hb dX3_sector_139 ?_
                      refine va_put (D := D) (ci := 2) (v := .int (((upd G 3 0) 0) + 1)) (ty := .int) (C := RX3) (T := TX3) (N := 19) hx hb hts hinM tyX3 tyX3_ok nmX3 hown hK T.1 T.2.1 T.2.2 0 rfl rfl 1 (by decide) (hts _ (List.mem_cons_of_mem _ k3_f57)) (fun _ h9 => h9) rfl (by decide +kernel) rfl rfl (Nat.le_of_ble_eq_true rfl) dX3_sector_140 (fun H locs hP hD hS => ?_)
                      have T := md_setG (k := 0) (v := ((upd G 3 0) 0) + 1) (kk := 1) rfl ⟨hP, hD, hS⟩
                      refine lv_aload_n hx hb dX3_sector_143 rfl (lv_at hl 1 rfl) ?_
                      refine hw_Vv (As := []) (rest := []) C T (c_M_reset (hg_1 (hg_up (by decide) hG) c_64)) (cwV 0 hts (x3_in k3_m60 k3_i_reset k3_s_reset k3_ini k3_c_reset) rfl rfl rfl (by decide +kernel) ⟨Nat.le_of_ble_eq_true rfl, Nat.le_of_ble_eq_true rfl⟩) md_isO md_ad rfl hl.1 rfl (Nat.le_of_ble_eq_true rfl) dX3_sector_144 ⟨Nat.zero_le _, Nat.zero_le _⟩ (fun H locs T => ?_)
                      refine lv_aload_n hx hb dX3_sector_147 rfl (lv_at hl 1 rfl) ?_
                      refine va_get (D := D) (ci := 2) (v := .int (((sm_reset (upd (upd G 3 0) 0 (((upd G 3 0) 0) + 1)) (up2 (up2 (up2 (up2 (up2 S (((upd G 3 0) 0).toNatClampNeg) 0 x1) (((upd G 3 0) 0).toNatClampNeg) 1 x2) (((upd G 3 0) 0).toNatClampNeg) 2 x3) (((upd G 3 0) 0).toNatClampNeg) 3 x4) (((upd G 3 0) 0).toNatClampNeg) 4 x5) (n + 1)).1) 0)) (C := RX3) (T := TX3) (N := 19) hx hb hts hinM hown hK T.1 0 rfl rfl 1 (by decide) (hts _ (List.mem_cons_of_mem _ k3_f57)) (fun _ h9 => h9) rfl dX3_sector_148 ?_
                      refine lv_iconst (v := 1) hx hb dX3_sector_151 (by decide) ?_
                      refine lv_isub hx hb dX3_sector_152 ?_
                      have e9 : sm_sector G S n x1 x2 x3 x4 x5 = ((((sm_reset (upd (upd G 3 0) 0 (((upd G 3 0) 0) + 1)) (up2 (up2 (up2 (up2 (up2 S (((upd G 3 0) 0).toNatClampNeg) 0 x1) (((upd G 3 0) 0).toNatClampNeg) 1 x2) (((upd G 3 0) 0).toNatClampNeg) 2 x3) (((upd G 3 0) 0).toNatClampNeg) 3 x4) (((upd G 3 0) 0).toNatClampNeg) 4 x5) (n + 1)).1) 0) - 1, (sm_reset (upd (upd G 3 0) 0 (((upd G 3 0) 0) + 1)) (up2 (up2 (up2 (up2 (up2 S (((upd G 3 0) 0).toNatClampNeg) 0 x1) (((upd G 3 0) 0).toNatClampNeg) 1 x2) (((upd G 3 0) 0).toNatClampNeg) 2 x3) (((upd G 3 0) 0).toNatClampNeg) 3 x4) (((upd G 3 0) 0).toNatClampNeg) 4 x5) (n + 1)).1, (sm_reset (upd (upd G 3 0) 0 (((upd G 3 0) 0) + 1)) (up2 (up2 (up2 (up2 (up2 S (((upd G 3 0) 0).toNatClampNeg) 0 x1) (((upd G 3 0) 0).toNatClampNeg) 1 x2) (((upd G 3 0) 0).toNatClampNeg) 2 x3) (((upd G 3 0) 0).toNatClampNeg) 3 x4) (((upd G 3 0) 0).toNatClampNeg) 4 x5) (n + 1)).2) := by unfold sm_sector; simp only [if_neg c_9, if_neg c_16, if_neg c_21, if_neg c_25, if_neg c_31, if_neg c_36, if_neg c_42, if_neg c_47, if_neg c_55, if_neg c_64]
                      exact hw_iret C T rfl (by rw [e9]) (by rw [e9]) dX3_sector_153
/-- join, its picture -/
def sm_join (G : Nat → Int32) (B : Nat → Int32) (x1 : Int32) (x2 : Int32) : Int32 × (Nat → Int32) × (Nat → Int32) := if (sm_isSector (upd G 3 0) x1) = 0 then (0, upd G 3 0, B) else (if (sm_isSector (upd G 3 0) x2) = 0 then (0, upd G 3 0, B) else (if x1 = x2 then (0, upd G 3 0, B) else (if (B (((32 * x1) + x2).toNatClampNeg)) = 0 then (1, upd (upd G 3 0) 1 (((upd G 3 0) 1) + 1), upd (upd B (((32 * x1) + x2).toNatClampNeg) 1) (((32 * x2) + x1).toNatClampNeg) 1) else (0, upd G 3 0, B))))
set_option maxHeartbeats 4000000 in
set_option maxRecDepth 100000 in
theorem c_M_join {x1 : Int32} {x2 : Int32} (hG : hg_n G n) : MI l D (t0 :: md_tys cm) yX3_join wsX3_join { frames := 1, cells := 0, slots := 0, locals := 21 } [.ref o, .int x1, .int x2] (md_W o am cm G S B) ((sm_join G B x1 x2).1) (md_W o am cm (sm_join G B x1 x2).2.1 S (sm_join G B x1 x2).2.2) := by
  refine MI.start (cc := cX3_join) (maxL := 3) (by decide) rfl (Nat.le_of_ble_eq_true rfl) (fun p e s m args below meth c A ls C T hl => ?_)
  have hx := C.1.1
  have hb := C.1.2.1
  have hml := C.1.2.2.1
  have hown : s.vm.findClass RX3 = some m.cls := C.1.2.2.2.1
  have hts := C.1.2.2.2.2
  have hK := C.2.2.2.1
  have hinM : ∀ w ∈ wsX30, w ∈ wsX3_join := fun w h => List.mem_cons_of_mem _ (inX3 w h)
  have hn32 := hG.1
  have hl : lv_has ls 3 [(0, .ref o), (1, .int x1), (2, .int x2)] := hl
  refine lv_aload_n hx hb dX3_join_0 rfl (lv_at hl 0 rfl) ?_
  refine lv_iconst (v := 0) hx hb dX3_join_1 (by decide) ?_
  refine va_put (D := D) (ci := 2) (v := .int 0) (ty := .int) (C := RX3) (T := TX3) (N := 19) hx hb hts hinM tyX3 tyX3_ok nmX3 hown hK T.1 T.2.1 T.2.2 0 rfl rfl 0 (by decide) (hts _ (List.mem_cons_of_mem _ k3_f54)) (fun _ h9 => h9) rfl (by decide +kernel) rfl rfl (Nat.le_of_ble_eq_true rfl) dX3_join_2 (fun H locs hP hD hS => ?_)
  have T := md_setG (k := 3) (v := 0) (kk := 0) rfl ⟨hP, hD, hS⟩
  refine lv_aload_n hx hb dX3_join_5 rfl (lv_at hl 0 rfl) ?_
  refine lv_iload_n hx hb dX3_join_6 rfl (lv_at hl 1 rfl) ?_
  refine hw_Vi (As := [.int x1]) (rest := []) C T (c_M_isSector) (cwV 1 hts (x3_in k3_m63 k3_i_isSector k3_s_isSector k3_ini k3_c_isSector) rfl rfl rfl (by decide +kernel) ⟨Nat.le_of_ble_eq_true rfl, Nat.le_of_ble_eq_true rfl⟩) md_isO md_ad rfl hl.1 rfl (Nat.le_of_ble_eq_true rfl) dX3_join_7 ⟨Nat.zero_le _, Nat.zero_le _⟩ (fun H locs T => ?_)
  refine lv_if_eq (tgt := 40) hx hb dX3_join_10 (by decide) (fun c_10 => ?_) (fun c_10 => ?_)
  · skip
    refine lv_iconst (v := 0) hx hb dX3_join_40 (by decide) ?_
    have e9 : sm_join G B x1 x2 = (0, upd G 3 0, B) := by unfold sm_join; simp only [if_pos c_10]
    exact hw_iret C T (by decide) (by rw [e9]) (by rw [e9]) dX3_join_41
  · skip
    refine lv_aload_n hx hb dX3_join_13 rfl (lv_at hl 0 rfl) ?_
    refine lv_iload_n hx hb dX3_join_14 rfl (lv_at hl 2 rfl) ?_
    refine hw_Vi (As := [.int x2]) (rest := []) C T (c_M_isSector) (cwV 1 hts (x3_in k3_m63 k3_i_isSector k3_s_isSector k3_ini k3_c_isSector) rfl rfl rfl (by decide +kernel) ⟨Nat.le_of_ble_eq_true rfl, Nat.le_of_ble_eq_true rfl⟩) md_isO md_ad rfl hl.1 rfl (Nat.le_of_ble_eq_true rfl) dX3_join_15 ⟨Nat.zero_le _, Nat.zero_le _⟩ (fun H locs T => ?_)
    refine lv_if_eq (tgt := 40) hx hb dX3_join_18 (by decide) (fun c_18 => ?_) (fun c_18 => ?_)
    · skip
      refine lv_iconst (v := 0) hx hb dX3_join_40 (by decide) ?_
      have e9 : sm_join G B x1 x2 = (0, upd G 3 0, B) := by unfold sm_join; simp only [if_neg c_10, if_pos c_18]
      exact hw_iret C T (by decide) (by rw [e9]) (by rw [e9]) dX3_join_41
    · skip
      refine lv_iload_n hx hb dX3_join_21 rfl (lv_at hl 1 rfl) ?_
      refine lv_iload_n hx hb dX3_join_22 rfl (lv_at hl 2 rfl) ?_
      refine lv_icmp_eq (tgt := 40) hx hb dX3_join_23 (by decide) (fun c_23 => ?_) (fun c_23 => ?_)
      · skip
        refine lv_iconst (v := 0) hx hb dX3_join_40 (by decide) ?_
        have e9 : sm_join G B x1 x2 = (0, upd G 3 0, B) := by unfold sm_join; simp only [if_neg c_10, if_neg c_18, if_pos c_23]
        exact hw_iret C T (by decide) (by rw [e9]) (by rw [e9]) dX3_join_41
      · skip
        refine lv_aload_n hx hb dX3_join_26 rfl (lv_at hl 0 rfl) ?_
        refine va_get (D := D) (ci := 2) (v := .ref (am 5)) (C := RX3) (T := TX3) (N := 19) hx hb hts hinM hown hK T.1 0 rfl rfl 7 (by decide) (hts _ (List.mem_cons_of_mem _ k3_f25)) (fun _ h9 => h9) rfl dX3_join_27 ?_
        refine lv_bipush (v := 32) hx hb dX3_join_30 (by decide) ?_
        refine lv_iload_n hx hb dX3_join_32 rfl (lv_at hl 1 rfl) ?_
        refine lv_imul hx hb dX3_join_33 ?_
        refine lv_iload_n hx hb dX3_join_34 rfl (lv_at hl 2 rfl) ?_
        refine lv_iadd hx hb dX3_join_35 ?_
        have h_36 : vp_in ((32 * x1) + x2) 1024 := (mb_in (mx_in (hg_up (by decide) hG) c_10) (mx_in (hg_up (by decide) hG) c_18))
        refine va_zald hx hb hK T.1 6 6 rfl rfl h_36 dX3_join_36 ?_
        refine W.eq (g2 := F0 m 37 ls [.int (B (((32 * x1) + x2).toNatClampNeg))]) rfl ?_
        refine lv_if_eq (tgt := 42) hx hb dX3_join_37 (by decide) (fun c_37 => ?_) (fun c_37 => ?_)
        · skip
          refine lv_aload_n hx hb dX3_join_42 rfl (lv_at hl 0 rfl) ?_
          refine va_get (D := D) (ci := 2) (v := .ref (am 5)) (C := RX3) (T := TX3) (N := 19) hx hb hts hinM hown hK T.1 0 rfl rfl 7 (by decide) (hts _ (List.mem_cons_of_mem _ k3_f25)) (fun _ h9 => h9) rfl dX3_join_43 ?_
          refine lv_bipush (v := 32) hx hb dX3_join_46 (by decide) ?_
          refine lv_iload_n hx hb dX3_join_48 rfl (lv_at hl 1 rfl) ?_
          refine lv_imul hx hb dX3_join_49 ?_
          refine lv_iload_n hx hb dX3_join_50 rfl (lv_at hl 2 rfl) ?_
          refine lv_iadd hx hb dX3_join_51 ?_
          refine lv_iconst (v := 1) hx hb dX3_join_52 (by decide) ?_
          have h_53 : vp_in ((32 * x1) + x2) 1024 := (mb_in (mx_in (hg_up (by decide) hG) c_10) (mx_in (hg_up (by decide) hG) c_18))
          refine va_zast (x := 1) hx hb hK T.1 T.2.1 T.2.2 6 6 rfl rfl h_53 dX3_join_53 (fun H locs hP hD hS => ?_)
          have T := md_setB (i := ((32 * x1) + x2).toNatClampNeg) (v := 1) ⟨hP, hD, hS⟩
          refine lv_aload_n hx hb dX3_join_54 rfl (lv_at hl 0 rfl) ?_
          refine va_get (D := D) (ci := 2) (v := .ref (am 5)) (C := RX3) (T := TX3) (N := 19) hx hb hts hinM hown hK T.1 0 rfl rfl 7 (by decide) (hts _ (List.mem_cons_of_mem _ k3_f25)) (fun _ h9 => h9) rfl dX3_join_55 ?_
          refine lv_bipush (v := 32) hx hb dX3_join_58 (by decide) ?_
          refine lv_iload_n hx hb dX3_join_60 rfl (lv_at hl 2 rfl) ?_
          refine lv_imul hx hb dX3_join_61 ?_
          refine lv_iload_n hx hb dX3_join_62 rfl (lv_at hl 1 rfl) ?_
          refine lv_iadd hx hb dX3_join_63 ?_
          refine lv_iconst (v := 1) hx hb dX3_join_64 (by decide) ?_
          have h_65 : vp_in ((32 * x2) + x1) 1024 := (mb_in (mx_in (hg_up (by decide) hG) c_18) (mx_in (hg_up (by decide) hG) c_10))
          refine va_zast (x := 1) hx hb hK T.1 T.2.1 T.2.2 6 6 rfl rfl h_65 dX3_join_65 (fun H locs hP hD hS => ?_)
          have T := md_setB (i := ((32 * x2) + x1).toNatClampNeg) (v := 1) ⟨hP, hD, hS⟩
          refine lv_aload_n hx hb dX3_join_66 rfl (lv_at hl 0 rfl) ?_
          refine lv_dup hx hb dX3_join_67 rfl ?_
          refine va_get (D := D) (ci := 2) (v := .int ((upd G 3 0) 1)) (C := RX3) (T := TX3) (N := 19) hx hb hts hinM hown hK T.1 0 rfl rfl 8 (by decide) (hts _ (List.mem_cons_of_mem _ k3_f67)) (fun _ h9 => h9) rfl dX3_join_68 ?_
          refine lv_iconst (v := 1) hx hb dX3_join_71 (by decide) ?_
          refine lv_iadd hx hb dX3_join_72 ?_
          refine va_put (D := D) (ci := 2) (v := .int (((upd G 3 0) 1) + 1)) (ty := .int) (C := RX3) (T := TX3) (N := 19) hx hb hts hinM tyX3 tyX3_ok nmX3 hown hK T.1 T.2.1 T.2.2 0 rfl rfl 8 (by decide) (hts _ (List.mem_cons_of_mem _ k3_f67)) (fun _ h9 => h9) rfl (by decide +kernel) rfl rfl (Nat.le_of_ble_eq_true rfl) dX3_join_73 (fun H locs hP hD hS => ?_)
          have T := md_setG (k := 1) (v := ((upd G 3 0) 1) + 1) (kk := 8) rfl ⟨hP, hD, hS⟩
          refine lv_iconst (v := 1) hx hb dX3_join_76 (by decide) ?_
          have e9 : sm_join G B x1 x2 = (1, upd (upd G 3 0) 1 (((upd G 3 0) 1) + 1), upd (upd B (((32 * x1) + x2).toNatClampNeg) 1) (((32 * x2) + x1).toNatClampNeg) 1) := by unfold sm_join; simp only [if_neg c_10, if_neg c_18, if_neg c_23, if_pos c_37]
          exact hw_iret C T (by decide) (by rw [e9]) (by rw [e9]) dX3_join_77
        · skip
          refine lv_iconst (v := 0) hx hb dX3_join_40 (by decide) ?_
          have e9 : sm_join G B x1 x2 = (0, upd G 3 0, B) := by unfold sm_join; simp only [if_neg c_10, if_neg c_18, if_neg c_23, if_neg c_37]
          exact hw_iret C T (by decide) (by rw [e9]) (by rw [e9]) dX3_join_41
end
end
section
section
variable {l : Launch} {D : va_G} {o : Nat} {am : Nat → Nat} {cm : Nat → ClassId} {t0 : ClassId × FieldType} {G : Nat → Int32} {S : Nat → Nat → Int32} {B : Nat → Int32} {n : Nat}
/-- begin, its picture -/
def sm_begin (G : Nat → Int32) (S : Nat → Nat → Int32) (B : Nat → Int32) (n : Nat) (x1 : Int32) (x2 : Int32) : Int32 × (Nat → Int32) × (Nat → Nat → Int32) := if (sm_isSector (upd G 3 0) x1) = 0 then (0, upd G 3 0, S) else (if x2 < 0 then (0, upd G 3 0, S) else (if x2 ≤ 2 then (if (S x1.toNatClampNeg 8) < 0 then (if x2 = 1 then (if x2 = 0 then (if ((sm_lowCeiling (up2 (up2 (up2 (up2 S x1.toNatClampNeg 8 x2) x1.toNatClampNeg 10 0) x1.toNatClampNeg 9 (-1)) x1.toNatClampNeg 12 ((up2 (up2 (up2 S x1.toNatClampNeg 8 x2) x1.toNatClampNeg 10 0) x1.toNatClampNeg 9 (-1)) x1.toNatClampNeg 6)) B n x1) - 4) ≤ ((up2 (up2 (up2 (up2 S x1.toNatClampNeg 8 x2) x1.toNatClampNeg 10 0) x1.toNatClampNeg 9 (-1)) x1.toNatClampNeg 12 ((up2 (up2 (up2 S x1.toNatClampNeg 8 x2) x1.toNatClampNeg 10 0) x1.toNatClampNeg 9 (-1)) x1.toNatClampNeg 6)) x1.toNatClampNeg 7) then (1, upd G 3 0, up2 (up2 (up2 (up2 (up2 S x1.toNatClampNeg 8 x2) x1.toNatClampNeg 10 0) x1.toNatClampNeg 9 (-1)) x1.toNatClampNeg 12 ((up2 (up2 (up2 S x1.toNatClampNeg 8 x2) x1.toNatClampNeg 10 0) x1.toNatClampNeg 9 (-1)) x1.toNatClampNeg 6)) x1.toNatClampNeg 11 ((up2 (up2 (up2 (up2 S x1.toNatClampNeg 8 x2) x1.toNatClampNeg 10 0) x1.toNatClampNeg 9 (-1)) x1.toNatClampNeg 12 ((up2 (up2 (up2 S x1.toNatClampNeg 8 x2) x1.toNatClampNeg 10 0) x1.toNatClampNeg 9 (-1)) x1.toNatClampNeg 6)) x1.toNatClampNeg 7)) else (1, upd G 3 0, up2 (up2 (up2 (up2 (up2 S x1.toNatClampNeg 8 x2) x1.toNatClampNeg 10 0) x1.toNatClampNeg 9 (-1)) x1.toNatClampNeg 12 ((up2 (up2 (up2 S x1.toNatClampNeg 8 x2) x1.toNatClampNeg 10 0) x1.toNatClampNeg 9 (-1)) x1.toNatClampNeg 6)) x1.toNatClampNeg 11 ((sm_lowCeiling (up2 (up2 (up2 (up2 S x1.toNatClampNeg 8 x2) x1.toNatClampNeg 10 0) x1.toNatClampNeg 9 (-1)) x1.toNatClampNeg 12 ((up2 (up2 (up2 S x1.toNatClampNeg 8 x2) x1.toNatClampNeg 10 0) x1.toNatClampNeg 9 (-1)) x1.toNatClampNeg 6)) B n x1) - 4))) else (1, upd G 3 0, up2 (up2 (up2 (up2 (up2 S x1.toNatClampNeg 8 x2) x1.toNatClampNeg 10 0) x1.toNatClampNeg 9 (-1)) x1.toNatClampNeg 12 ((up2 (up2 (up2 S x1.toNatClampNeg 8 x2) x1.toNatClampNeg 10 0) x1.toNatClampNeg 9 (-1)) x1.toNatClampNeg 6)) x1.toNatClampNeg 11 (sm_lowFloor (up2 (up2 (up2 (up2 S x1.toNatClampNeg 8 x2) x1.toNatClampNeg 10 0) x1.toNatClampNeg 9 (-1)) x1.toNatClampNeg 12 ((up2 (up2 (up2 S x1.toNatClampNeg 8 x2) x1.toNatClampNeg 10 0) x1.toNatClampNeg 9 (-1)) x1.toNatClampNeg 6)) B n x1))) else (if x2 = 0 then (if ((sm_lowCeiling (up2 (up2 (up2 (up2 S x1.toNatClampNeg 8 x2) x1.toNatClampNeg 10 0) x1.toNatClampNeg 9 1) x1.toNatClampNeg 12 ((up2 (up2 (up2 S x1.toNatClampNeg 8 x2) x1.toNatClampNeg 10 0) x1.toNatClampNeg 9 1) x1.toNatClampNeg 6)) B n x1) - 4) ≤ ((up2 (up2 (up2 (up2 S x1.toNatClampNeg 8 x2) x1.toNatClampNeg 10 0) x1.toNatClampNeg 9 1) x1.toNatClampNeg 12 ((up2 (up2 (up2 S x1.toNatClampNeg 8 x2) x1.toNatClampNeg 10 0) x1.toNatClampNeg 9 1) x1.toNatClampNeg 6)) x1.toNatClampNeg 7) then (1, upd G 3 0, up2 (up2 (up2 (up2 (up2 S x1.toNatClampNeg 8 x2) x1.toNatClampNeg 10 0) x1.toNatClampNeg 9 1) x1.toNatClampNeg 12 ((up2 (up2 (up2 S x1.toNatClampNeg 8 x2) x1.toNatClampNeg 10 0) x1.toNatClampNeg 9 1) x1.toNatClampNeg 6)) x1.toNatClampNeg 11 ((up2 (up2 (up2 (up2 S x1.toNatClampNeg 8 x2) x1.toNatClampNeg 10 0) x1.toNatClampNeg 9 1) x1.toNatClampNeg 12 ((up2 (up2 (up2 S x1.toNatClampNeg 8 x2) x1.toNatClampNeg 10 0) x1.toNatClampNeg 9 1) x1.toNatClampNeg 6)) x1.toNatClampNeg 7)) else (1, upd G 3 0, up2 (up2 (up2 (up2 (up2 S x1.toNatClampNeg 8 x2) x1.toNatClampNeg 10 0) x1.toNatClampNeg 9 1) x1.toNatClampNeg 12 ((up2 (up2 (up2 S x1.toNatClampNeg 8 x2) x1.toNatClampNeg 10 0) x1.toNatClampNeg 9 1) x1.toNatClampNeg 6)) x1.toNatClampNeg 11 ((sm_lowCeiling (up2 (up2 (up2 (up2 S x1.toNatClampNeg 8 x2) x1.toNatClampNeg 10 0) x1.toNatClampNeg 9 1) x1.toNatClampNeg 12 ((up2 (up2 (up2 S x1.toNatClampNeg 8 x2) x1.toNatClampNeg 10 0) x1.toNatClampNeg 9 1) x1.toNatClampNeg 6)) B n x1) - 4))) else (if ((up2 (up2 (up2 (up2 S x1.toNatClampNeg 8 x2) x1.toNatClampNeg 10 0) x1.toNatClampNeg 9 1) x1.toNatClampNeg 12 ((up2 (up2 (up2 S x1.toNatClampNeg 8 x2) x1.toNatClampNeg 10 0) x1.toNatClampNeg 9 1) x1.toNatClampNeg 6)) x1.toNatClampNeg 7) ≤ (sm_highFloor (up2 (up2 (up2 (up2 S x1.toNatClampNeg 8 x2) x1.toNatClampNeg 10 0) x1.toNatClampNeg 9 1) x1.toNatClampNeg 12 ((up2 (up2 (up2 S x1.toNatClampNeg 8 x2) x1.toNatClampNeg 10 0) x1.toNatClampNeg 9 1) x1.toNatClampNeg 6)) B n x1) then (1, upd G 3 0, up2 (up2 (up2 (up2 (up2 S x1.toNatClampNeg 8 x2) x1.toNatClampNeg 10 0) x1.toNatClampNeg 9 1) x1.toNatClampNeg 12 ((up2 (up2 (up2 S x1.toNatClampNeg 8 x2) x1.toNatClampNeg 10 0) x1.toNatClampNeg 9 1) x1.toNatClampNeg 6)) x1.toNatClampNeg 11 ((up2 (up2 (up2 (up2 S x1.toNatClampNeg 8 x2) x1.toNatClampNeg 10 0) x1.toNatClampNeg 9 1) x1.toNatClampNeg 12 ((up2 (up2 (up2 S x1.toNatClampNeg 8 x2) x1.toNatClampNeg 10 0) x1.toNatClampNeg 9 1) x1.toNatClampNeg 6)) x1.toNatClampNeg 7)) else (1, upd G 3 0, up2 (up2 (up2 (up2 (up2 S x1.toNatClampNeg 8 x2) x1.toNatClampNeg 10 0) x1.toNatClampNeg 9 1) x1.toNatClampNeg 12 ((up2 (up2 (up2 S x1.toNatClampNeg 8 x2) x1.toNatClampNeg 10 0) x1.toNatClampNeg 9 1) x1.toNatClampNeg 6)) x1.toNatClampNeg 11 (sm_highFloor (up2 (up2 (up2 (up2 S x1.toNatClampNeg 8 x2) x1.toNatClampNeg 10 0) x1.toNatClampNeg 9 1) x1.toNatClampNeg 12 ((up2 (up2 (up2 S x1.toNatClampNeg 8 x2) x1.toNatClampNeg 10 0) x1.toNatClampNeg 9 1) x1.toNatClampNeg 6)) B n x1))))) else (if x2 = 0 then (if (S x1.toNatClampNeg 8) = 0 then (if 1 ≤ (S x1.toNatClampNeg 9) then (0, upd G 3 0, up2 (up2 S x1.toNatClampNeg 9 (S x1.toNatClampNeg 9)) x1.toNatClampNeg 10 ((up2 S x1.toNatClampNeg 9 (S x1.toNatClampNeg 9)) x1.toNatClampNeg 10)) else (1, upd G 3 0, up2 (up2 S x1.toNatClampNeg 9 1) x1.toNatClampNeg 10 0)) else (0, upd G 3 0, up2 (up2 S x1.toNatClampNeg 9 (S x1.toNatClampNeg 9)) x1.toNatClampNeg 10 ((up2 S x1.toNatClampNeg 9 (S x1.toNatClampNeg 9)) x1.toNatClampNeg 10))) else (0, upd G 3 0, up2 (up2 S x1.toNatClampNeg 9 (S x1.toNatClampNeg 9)) x1.toNatClampNeg 10 ((up2 S x1.toNatClampNeg 9 (S x1.toNatClampNeg 9)) x1.toNatClampNeg 10)))) else (0, upd G 3 0, S)))
theorem sm_begin_0 {G : Nat → Int32} {S : Nat → Nat → Int32} {B : Nat → Int32} {n : Nat} {x1 : Int32} {x2 : Int32} : (sm_begin G S B n x1 x2).2.1 0 = G 0 := by
  unfold sm_begin
  repeat' split
  all_goals rfl
theorem sm_begin_n {G : Nat → Int32} {S : Nat → Nat → Int32} {B : Nat → Int32} {n : Nat} {x1 : Int32} {x2 : Int32} (h : hg_n G n) : hg_n (sm_begin G S B n x1 x2).2.1 n := ⟨h.1, by rw [sm_begin_0]; exact h.2⟩
set_option maxHeartbeats 4000000 in
set_option maxRecDepth 100000 in
theorem c_M_begin {x1 : Int32} {x2 : Int32} (hG : hg_n G n) : MI l D (t0 :: md_tys cm) yX3_begin wsX3_begin { frames := 1, cells := 0, slots := 0, locals := 23 } [.ref o, .int x1, .int x2] (md_W o am cm G S B) ((sm_begin G S B n x1 x2).1) (md_W o am cm (sm_begin G S B n x1 x2).2.1 (sm_begin G S B n x1 x2).2.2 B) := by
  refine MI.start (cc := cX3_begin) (maxL := 5) (by decide) rfl (Nat.le_of_ble_eq_true rfl) (fun p e s m args below meth c A ls C T hl => ?_)
  have hx := C.1.1
  have hb := C.1.2.1
  have hml := C.1.2.2.1
  have hown : s.vm.findClass RX3 = some m.cls := C.1.2.2.2.1
  have hts := C.1.2.2.2.2
  have hK := C.2.2.2.1
  have hinM : ∀ w ∈ wsX30, w ∈ wsX3_begin := fun w h => List.mem_cons_of_mem _ (inX3 w h)
  have hn32 := hG.1
  have hl : lv_has ls 5 [(0, .ref o), (1, .int x1), (2, .int x2)] := hl
  refine lv_aload_n hx hb dX3_begin_0 rfl (lv_at hl 0 rfl) ?_
  refine lv_iconst (v := 0) hx hb dX3_begin_1 (by decide) ?_
  refine va_put (D := D) (ci := 2) (v := .int 0) (ty := .int) (C := RX3) (T := TX3) (N := 19) hx hb hts hinM tyX3 tyX3_ok nmX3 hown hK T.1 T.2.1 T.2.2 0 rfl rfl 0 (by decide) (hts _ (List.mem_cons_of_mem _ k3_f54)) (fun _ h9 => h9) rfl (by decide +kernel) rfl rfl (Nat.le_of_ble_eq_true rfl) dX3_begin_2 (fun H locs hP hD hS => ?_)
  have T := md_setG (k := 3) (v := 0) (kk := 0) rfl ⟨hP, hD, hS⟩
  refine lv_aload_n hx hb dX3_begin_5 rfl (lv_at hl 0 rfl) ?_
  refine lv_iload_n hx hb dX3_begin_6 rfl (lv_at hl 1 rfl) ?_
  refine hw_Vi (As := [.int x1]) (rest := []) C T (c_M_isSector) (cwV 1 hts (x3_in k3_m63 k3_i_isSector k3_s_isSector k3_ini k3_c_isSector) rfl rfl rfl (by decide +kernel) ⟨Nat.le_of_ble_eq_true rfl, Nat.le_of_ble_eq_true rfl⟩) md_isO md_ad rfl hl.1 rfl (Nat.le_of_ble_eq_true rfl) dX3_begin_7 ⟨Nat.zero_le _, Nat.zero_le _⟩ (fun H locs T => ?_)
  refine lv_if_eq (tgt := 22) hx hb dX3_begin_10 (by decide) (fun c_10 => ?_) (fun c_10 => ?_)
  · skip
    refine lv_iconst (v := 0) hx hb dX3_begin_22 (by decide) ?_
    have e9 : sm_begin G S B n x1 x2 = (0, upd G 3 0, S) := by unfold sm_begin; simp only [if_pos c_10]
    exact hw_iret C T (by decide) (by rw [e9]) (by rw [e9]) dX3_begin_23
  · skip
    refine lv_iload_n hx hb dX3_begin_13 rfl (lv_at hl 2 rfl) ?_
    refine lv_if_lt (tgt := 22) hx hb dX3_begin_14 (by decide) (fun c_14 => ?_) (fun c_14 => ?_)
    · skip
      refine lv_iconst (v := 0) hx hb dX3_begin_22 (by decide) ?_
      have e9 : sm_begin G S B n x1 x2 = (0, upd G 3 0, S) := by unfold sm_begin; simp only [if_neg c_10, if_pos c_14]
      exact hw_iret C T (by decide) (by rw [e9]) (by rw [e9]) dX3_begin_23
    · skip
      refine lv_iload_n hx hb dX3_begin_17 rfl (lv_at hl 2 rfl) ?_
      refine lv_iconst (v := 2) hx hb dX3_begin_18 (by decide) ?_
      refine lv_icmp_le (tgt := 24) hx hb dX3_begin_19 (by decide) (fun c_19 => ?_) (fun c_19 => ?_)
      · skip
        refine lv_aload_n hx hb dX3_begin_24 rfl (lv_at hl 0 rfl) ?_
        refine va_get (D := D) (ci := 2) (v := .ref (am 8)) (C := RX3) (T := TX3) (N := 19) hx hb hts hinM hown hK T.1 0 rfl rfl 11 (by decide) (hts _ (List.mem_cons_of_mem _ k3_f35)) (fun _ h9 => h9) rfl dX3_begin_25 ?_
        refine lv_iload_n hx hb dX3_begin_28 rfl (lv_at hl 1 rfl) ?_
        have h_29 : vp_in x1 32 := (mx_in (hg_up (by decide) hG) c_10)
        refine va_iald hx hb hK T.1 9 9 rfl rfl h_29 dX3_begin_29 ?_
        refine W.eq (g2 := F0 m 30 ls [.int (S x1.toNatClampNeg 8)]) rfl ?_
        refine lv_if_lt (tgt := 104) hx hb dX3_begin_30 (by decide) (fun c_30 => ?_) (fun c_30 => ?_)
        · skip
          refine lv_aload_n hx hb dX3_begin_104 rfl (lv_at hl 0 rfl) ?_
          refine va_get (D := D) (ci := 2) (v := .ref (am 8)) (C := RX3) (T := TX3) (N := 19) hx hb hts hinM hown hK T.1 0 rfl rfl 11 (by decide) (hts _ (List.mem_cons_of_mem _ k3_f35)) (fun _ h9 => h9) rfl dX3_begin_105 ?_
          refine lv_iload_n hx hb dX3_begin_108 rfl (lv_at hl 1 rfl) ?_
          refine lv_iload_n hx hb dX3_begin_109 rfl (lv_at hl 2 rfl) ?_
          have h_110 : vp_in x1 32 := (mx_in (hg_up (by decide) hG) c_10)
          refine va_iast (x := x2) hx hb hK T.1 T.2.1 T.2.2 9 9 rfl rfl h_110 dX3_begin_110 (fun H locs hP hD hS => ?_)
          have T := md_set8 (i := x1.toNatClampNeg) (v := x2) ⟨hP, hD, hS⟩
          refine lv_aload_n hx hb dX3_begin_111 rfl (lv_at hl 0 rfl) ?_
          refine va_get (D := D) (ci := 2) (v := .ref (am 10)) (C := RX3) (T := TX3) (N := 19) hx hb hts hinM hown hK T.1 0 rfl rfl 13 (by decide) (hts _ (List.mem_cons_of_mem _ k3_f41)) (fun _ h9 => h9) rfl dX3_begin_112 ?_
          refine lv_iload_n hx hb dX3_begin_115 rfl (lv_at hl 1 rfl) ?_
          refine lv_iconst (v := 0) hx hb dX3_begin_116 (by decide) ?_
          have h_117 : vp_in x1 32 := (mx_in (hg_up (by decide) hG) c_10)
          refine va_iast (x := 0) hx hb hK T.1 T.2.1 T.2.2 11 11 rfl rfl h_117 dX3_begin_117 (fun H locs hP hD hS => ?_)
          have T := md_set10 (i := x1.toNatClampNeg) (v := 0) ⟨hP, hD, hS⟩
          refine lv_aload_n hx hb dX3_begin_118 rfl (lv_at hl 0 rfl) ?_
          refine va_get (D := D) (ci := 2) (v := .ref (am 9)) (C := RX3) (T := TX3) (N := 19) hx hb hts hinM hown hK T.1 0 rfl rfl 12 (by decide) (hts _ (List.mem_cons_of_mem _ k3_f38)) (fun _ h9 => h9) rfl dX3_begin_119 ?_
          refine lv_iload_n hx hb dX3_begin_122 rfl (lv_at hl 1 rfl) ?_
          refine lv_iload_n hx hb dX3_begin_123 rfl (lv_at hl 2 rfl) ?_
          refine lv_iconst (v := 1) hx hb dX3_begin_124 (by decide) ?_
          refine lv_icmp_ne (tgt := 132) hx hb dX3_begin_125 (by decide) (fun c_125 => ?_) (fun c_125 => ?_)
          · skip
            refine lv_iconst (v := 1) hx hb dX3_begin_132 (by decide) ?_
            have h_133 : vp_in x1 32 := (mx_in (hg_up (by decide) hG) c_10)
            refine va_iast (x := 1) hx hb hK T.1 T.2.1 T.2.2 10 10 rfl rfl h_133 dX3_begin_133 (fun H locs hP hD hS => ?_)
            have T := md_set9 (i := x1.toNatClampNeg) (v := 1) ⟨hP, hD, hS⟩
            refine lv_aload_n hx hb dX3_begin_134 rfl (lv_at hl 0 rfl) ?_
            refine va_get (D := D) (ci := 2) (v := .ref (am 12)) (C := RX3) (T := TX3) (N := 19) hx hb hts hinM hown hK T.1 0 rfl rfl 15 (by decide) (hts _ (List.mem_cons_of_mem _ k3_f47)) (fun _ h9 => h9) rfl dX3_begin_135 ?_
            refine lv_iload_n hx hb dX3_begin_138 rfl (lv_at hl 1 rfl) ?_
            refine lv_aload_n hx hb dX3_begin_139 rfl (lv_at hl 0 rfl) ?_
            refine va_get (D := D) (ci := 2) (v := .ref (am 6)) (C := RX3) (T := TX3) (N := 19) hx hb hts hinM hown hK T.1 0 rfl rfl 9 (by decide) (hts _ (List.mem_cons_of_mem _ k3_f29)) (fun _ h9 => h9) rfl dX3_begin_140 ?_
            refine lv_iload_n hx hb dX3_begin_143 rfl (lv_at hl 1 rfl) ?_
            have h_144 : vp_in x1 32 := (mx_in (hg_up (by decide) hG) c_10)
            refine va_iald hx hb hK T.1 7 7 rfl rfl h_144 dX3_begin_144 ?_
            refine W.eq (g2 := F0 m 145 ls [.int ((up2 (up2 (up2 S x1.toNatClampNeg 8 x2) x1.toNatClampNeg 10 0) x1.toNatClampNeg 9 1) x1.toNatClampNeg 6), .int x1, .ref (am 12)]) rfl ?_
            have h_145 : vp_in x1 32 := (mx_in (hg_up (by decide) hG) c_10)
            refine va_iast (x := (up2 (up2 (up2 S x1.toNatClampNeg 8 x2) x1.toNatClampNeg 10 0) x1.toNatClampNeg 9 1) x1.toNatClampNeg 6) hx hb hK T.1 T.2.1 T.2.2 13 13 rfl rfl h_145 dX3_begin_145 (fun H locs hP hD hS => ?_)
            have T := md_set12 (i := x1.toNatClampNeg) (v := (up2 (up2 (up2 S x1.toNatClampNeg 8 x2) x1.toNatClampNeg 10 0) x1.toNatClampNeg 9 1) x1.toNatClampNeg 6) ⟨hP, hD, hS⟩
            refine lv_aload_n hx hb dX3_begin_146 rfl (lv_at hl 0 rfl) ?_
            refine lv_iload_n hx hb dX3_begin_147 rfl (lv_at hl 1 rfl) ?_
            refine hw_Vi (As := [.int x1]) (rest := []) C T (c_M_lowCeiling (mx_in (hg_up (by decide) hG) c_10) (hg_up (by decide) hG)) (cwV 1 hts (x3_in k3_m77 k3_i_lowCeiling k3_s_lowCeiling k3_ini k3_c_lowCeiling) rfl rfl rfl (by decide +kernel) ⟨Nat.le_of_ble_eq_true rfl, Nat.le_of_ble_eq_true rfl⟩) md_isO md_ad rfl hl.1 rfl (Nat.le_of_ble_eq_true rfl) dX3_begin_148 ⟨Nat.zero_le _, Nat.zero_le _⟩ (fun H locs T => ?_)
            refine lv_iconst (v := 4) hx hb dX3_begin_151 (by decide) ?_
            refine lv_isub hx hb dX3_begin_152 ?_
            refine lv_istore_n (lv' := [(3, .int ((sm_lowCeiling (up2 (up2 (up2 (up2 S x1.toNatClampNeg 8 x2) x1.toNatClampNeg 10 0) x1.toNatClampNeg 9 1) x1.toNatClampNeg 12 ((up2 (up2 (up2 S x1.toNatClampNeg 8 x2) x1.toNatClampNeg 10 0) x1.toNatClampNeg 9 1) x1.toNatClampNeg 6)) B n x1) - 4)), (0, .ref o), (1, .int x1), (2, .int x2)]) hx hb dX3_begin_153 rfl hl (by decide) rfl (fun ls hl => ?_)
            refine lv_aload_n hx hb dX3_begin_154 rfl (lv_at hl 1 rfl) ?_
            refine lv_iload_n hx hb dX3_begin_155 rfl (lv_at hl 2 rfl) ?_
            refine hw_Vi (As := [.int x1]) (rest := []) C T (c_M_highFloor (mx_in (hg_up (by decide) hG) c_10) (hg_up (by decide) hG)) (cwV 1 hts (x3_in k3_m81 k3_i_highFloor k3_s_highFloor k3_ini k3_c_highFloor) rfl rfl rfl (by decide +kernel) ⟨Nat.le_of_ble_eq_true rfl, Nat.le_of_ble_eq_true rfl⟩) md_isO md_ad rfl hl.1 rfl (Nat.le_of_ble_eq_true rfl) dX3_begin_156 ⟨Nat.zero_le _, Nat.zero_le _⟩ (fun H locs T => ?_)
            refine lv_istore (lv' := [(4, .int (sm_highFloor (up2 (up2 (up2 (up2 S x1.toNatClampNeg 8 x2) x1.toNatClampNeg 10 0) x1.toNatClampNeg 9 1) x1.toNatClampNeg 12 ((up2 (up2 (up2 S x1.toNatClampNeg 8 x2) x1.toNatClampNeg 10 0) x1.toNatClampNeg 9 1) x1.toNatClampNeg 6)) B n x1)), (3, .int ((sm_lowCeiling (up2 (up2 (up2 (up2 S x1.toNatClampNeg 8 x2) x1.toNatClampNeg 10 0) x1.toNatClampNeg 9 1) x1.toNatClampNeg 12 ((up2 (up2 (up2 S x1.toNatClampNeg 8 x2) x1.toNatClampNeg 10 0) x1.toNatClampNeg 9 1) x1.toNatClampNeg 6)) B n x1) - 4)), (0, .ref o), (1, .int x1), (2, .int x2)]) hx hb dX3_begin_159 hl (by decide) rfl (fun ls hl => ?_)
            refine lv_aload_n hx hb dX3_begin_161 rfl (lv_at hl 2 rfl) ?_
            refine va_get (D := D) (ci := 2) (v := .ref (am 11)) (C := RX3) (T := TX3) (N := 19) hx hb hts hinM hown hK T.1 0 rfl rfl 14 (by decide) (hts _ (List.mem_cons_of_mem _ k3_f44)) (fun _ h9 => h9) rfl dX3_begin_162 ?_
            refine lv_iload_n hx hb dX3_begin_165 rfl (lv_at hl 3 rfl) ?_
            refine lv_iload_n hx hb dX3_begin_166 rfl (lv_at hl 4 rfl) ?_
            refine lv_if_ne (tgt := 193) hx hb dX3_begin_167 (by decide) (fun c_167 => ?_) (fun c_167 => ?_)
            · skip
              refine lv_iload_n hx hb dX3_begin_193 rfl (lv_at hl 4 rfl) ?_
              refine lv_iconst (v := 1) hx hb dX3_begin_194 (by decide) ?_
              refine lv_icmp_ne (tgt := 206) hx hb dX3_begin_195 (by decide) (fun _ => ?_) (fun c_195 => absurd c_195 c_125)
              refine lv_iload hx hb dX3_begin_206 (lv_at hl 0 rfl) ?_
              refine lv_aload_n hx hb dX3_begin_208 rfl (lv_at hl 2 rfl) ?_
              refine va_get (D := D) (ci := 2) (v := .ref (am 7)) (C := RX3) (T := TX3) (N := 19) hx hb hts hinM hown hK T.1 0 rfl rfl 10 (by decide) (hts _ (List.mem_cons_of_mem _ k3_f32)) (fun _ h9 => h9) rfl dX3_begin_209 ?_
              refine lv_iload_n hx hb dX3_begin_212 rfl (lv_at hl 3 rfl) ?_
              have h_213 : vp_in x1 32 := (mx_in (hg_up (by decide) hG) c_10)
              refine va_iald hx hb hK T.1 8 8 rfl rfl h_213 dX3_begin_213 ?_
              refine W.eq (g2 := F0 m 214 ls [.int ((up2 (up2 (up2 (up2 S x1.toNatClampNeg 8 x2) x1.toNatClampNeg 10 0) x1.toNatClampNeg 9 1) x1.toNatClampNeg 12 ((up2 (up2 (up2 S x1.toNatClampNeg 8 x2) x1.toNatClampNeg 10 0) x1.toNatClampNeg 9 1) x1.toNatClampNeg 6)) x1.toNatClampNeg 7), .int (sm_highFloor (up2 (up2 (up2 (up2 S x1.toNatClampNeg 8 x2) x1.toNatClampNeg 10 0) x1.toNatClampNeg 9 1) x1.toNatClampNeg 12 ((up2 (up2 (up2 S x1.toNatClampNeg 8 x2) x1.toNatClampNeg 10 0) x1.toNatClampNeg 9 1) x1.toNatClampNeg 6)) B n x1), .int x1, .ref (am 11)]) rfl ?_
              refine lv_icmp_ge (tgt := 222) hx hb dX3_begin_214 (by decide) (fun c_214 => ?_) (fun c_214 => ?_)
              · skip
                refine lv_aload_n hx hb dX3_begin_222 rfl (lv_at hl 2 rfl) ?_
                refine va_get (D := D) (ci := 2) (v := .ref (am 7)) (C := RX3) (T := TX3) (N := 19) hx hb hts hinM hown hK T.1 0 rfl rfl 10 (by decide) (hts _ (List.mem_cons_of_mem _ k3_f32)) (fun _ h9 => h9) rfl dX3_begin_223 ?_
                refine lv_iload_n hx hb dX3_begin_226 rfl (lv_at hl 3 rfl) ?_
                have h_227 : vp_in x1 32 := (mx_in (hg_up (by decide) hG) c_10)
                refine va_iald hx hb hK T.1 8 8 rfl rfl h_227 dX3_begin_227 ?_
                refine W.eq (g2 := F0 m 228 ls [.int ((up2 (up2 (up2 (up2 S x1.toNatClampNeg 8 x2) x1.toNatClampNeg 10 0) x1.toNatClampNeg 9 1) x1.toNatClampNeg 12 ((up2 (up2 (up2 S x1.toNatClampNeg 8 x2) x1.toNatClampNeg 10 0) x1.toNatClampNeg 9 1) x1.toNatClampNeg 6)) x1.toNatClampNeg 7), .int x1, .ref (am 11)]) rfl ?_
                have h_228 : vp_in x1 32 := (mx_in (hg_up (by decide) hG) c_10)
                refine va_iast (x := (up2 (up2 (up2 (up2 S x1.toNatClampNeg 8 x2) x1.toNatClampNeg 10 0) x1.toNatClampNeg 9 1) x1.toNatClampNeg 12 ((up2 (up2 (up2 S x1.toNatClampNeg 8 x2) x1.toNatClampNeg 10 0) x1.toNatClampNeg 9 1) x1.toNatClampNeg 6)) x1.toNatClampNeg 7) hx hb hK T.1 T.2.1 T.2.2 12 12 rfl rfl h_228 dX3_begin_228 (fun H locs hP hD hS => ?_)
                have T := md_set11 (i := x1.toNatClampNeg) (v := (up2 (up2 (up2 (up2 S x1.toNatClampNeg 8 x2) x1.toNatClampNeg 10 0) x1.toNatClampNeg 9 1) x1.toNatClampNeg 12 ((up2 (up2 (up2 S x1.toNatClampNeg 8 x2) x1.toNatClampNeg 10 0) x1.toNatClampNeg 9 1) x1.toNatClampNeg 6)) x1.toNatClampNeg 7) ⟨hP, hD, hS⟩
                refine lv_iconst (v := 1) hx hb dX3_begin_229 (by decide) ?_
                have e9 : sm_begin G S B n x1 x2 = (1, upd G 3 0, up2 (up2 (up2 (up2 (up2 S x1.toNatClampNeg 8 x2) x1.toNatClampNeg 10 0) x1.toNatClampNeg 9 1) x1.toNatClampNeg 12 ((up2 (up2 (up2 S x1.toNatClampNeg 8 x2) x1.toNatClampNeg 10 0) x1.toNatClampNeg 9 1) x1.toNatClampNeg 6)) x1.toNatClampNeg 11 ((up2 (up2 (up2 (up2 S x1.toNatClampNeg 8 x2) x1.toNatClampNeg 10 0) x1.toNatClampNeg 9 1) x1.toNatClampNeg 12 ((up2 (up2 (up2 S x1.toNatClampNeg 8 x2) x1.toNatClampNeg 10 0) x1.toNatClampNeg 9 1) x1.toNatClampNeg 6)) x1.toNatClampNeg 7)) := by unfold sm_begin; simp only [if_neg c_10, if_neg c_14, if_pos c_19, if_pos c_30, if_neg c_125, if_neg c_167, if_pos c_214]
                exact hw_iret C T (by decide) (by rw [e9]) (by rw [e9]) dX3_begin_230
              · skip
                refine lv_iload hx hb dX3_begin_217 (lv_at hl 0 rfl) ?_
                refine lv_goto (tgt := 228) hx hb dX3_begin_219 (by decide) ?_
                have h_228 : vp_in x1 32 := (mx_in (hg_up (by decide) hG) c_10)
                refine va_iast (x := sm_highFloor (up2 (up2 (up2 (up2 S x1.toNatClampNeg 8 x2) x1.toNatClampNeg 10 0) x1.toNatClampNeg 9 1) x1.toNatClampNeg 12 ((up2 (up2 (up2 S x1.toNatClampNeg 8 x2) x1.toNatClampNeg 10 0) x1.toNatClampNeg 9 1) x1.toNatClampNeg 6)) B n x1) hx hb hK T.1 T.2.1 T.2.2 12 12 rfl rfl h_228 dX3_begin_228 (fun H locs hP hD hS => ?_)
                have T := md_set11 (i := x1.toNatClampNeg) (v := sm_highFloor (up2 (up2 (up2 (up2 S x1.toNatClampNeg 8 x2) x1.toNatClampNeg 10 0) x1.toNatClampNeg 9 1) x1.toNatClampNeg 12 ((up2 (up2 (up2 S x1.toNatClampNeg 8 x2) x1.toNatClampNeg 10 0) x1.toNatClampNeg 9 1) x1.toNatClampNeg 6)) B n x1) ⟨hP, hD, hS⟩
                refine lv_iconst (v := 1) hx hb dX3_begin_229 (by decide) ?_
                have e9 : sm_begin G S B n x1 x2 = (1, upd G 3 0, up2 (up2 (up2 (up2 (up2 S x1.toNatClampNeg 8 x2) x1.toNatClampNeg 10 0) x1.toNatClampNeg 9 1) x1.toNatClampNeg 12 ((up2 (up2 (up2 S x1.toNatClampNeg 8 x2) x1.toNatClampNeg 10 0) x1.toNatClampNeg 9 1) x1.toNatClampNeg 6)) x1.toNatClampNeg 11 (sm_highFloor (up2 (up2 (up2 (up2 S x1.toNatClampNeg 8 x2) x1.toNatClampNeg 10 0) x1.toNatClampNeg 9 1) x1.toNatClampNeg 12 ((up2 (up2 (up2 S x1.toNatClampNeg 8 x2) x1.toNatClampNeg 10 0) x1.toNatClampNeg 9 1) x1.toNatClampNeg 6)) B n x1)) := by unfold sm_begin; simp only [if_neg c_10, if_neg c_14, if_pos c_19, if_pos c_30, if_neg c_125, if_neg c_167, if_neg c_214]
                exact hw_iret C T (by decide) (by rw [e9]) (by rw [e9]) dX3_begin_230
            · skip
              refine lv_iload_n hx hb dX3_begin_170 rfl (lv_at hl 1 rfl) ?_
              refine lv_aload_n hx hb dX3_begin_171 rfl (lv_at hl 2 rfl) ?_
              refine va_get (D := D) (ci := 2) (v := .ref (am 7)) (C := RX3) (T := TX3) (N := 19) hx hb hts hinM hown hK T.1 0 rfl rfl 10 (by decide) (hts _ (List.mem_cons_of_mem _ k3_f32)) (fun _ h9 => h9) rfl dX3_begin_172 ?_
              refine lv_iload_n hx hb dX3_begin_175 rfl (lv_at hl 3 rfl) ?_
              have h_176 : vp_in x1 32 := (mx_in (hg_up (by decide) hG) c_10)
              refine va_iald hx hb hK T.1 8 8 rfl rfl h_176 dX3_begin_176 ?_
              refine W.eq (g2 := F0 m 177 ls [.int ((up2 (up2 (up2 (up2 S x1.toNatClampNeg 8 x2) x1.toNatClampNeg 10 0) x1.toNatClampNeg 9 1) x1.toNatClampNeg 12 ((up2 (up2 (up2 S x1.toNatClampNeg 8 x2) x1.toNatClampNeg 10 0) x1.toNatClampNeg 9 1) x1.toNatClampNeg 6)) x1.toNatClampNeg 7), .int ((sm_lowCeiling (up2 (up2 (up2 (up2 S x1.toNatClampNeg 8 x2) x1.toNatClampNeg 10 0) x1.toNatClampNeg 9 1) x1.toNatClampNeg 12 ((up2 (up2 (up2 S x1.toNatClampNeg 8 x2) x1.toNatClampNeg 10 0) x1.toNatClampNeg 9 1) x1.toNatClampNeg 6)) B n x1) - 4), .int x1, .ref (am 11)]) rfl ?_
              refine lv_icmp_le (tgt := 184) hx hb dX3_begin_177 (by decide) (fun c_177 => ?_) (fun c_177 => ?_)
              · skip
                refine lv_aload_n hx hb dX3_begin_184 rfl (lv_at hl 2 rfl) ?_
                refine va_get (D := D) (ci := 2) (v := .ref (am 7)) (C := RX3) (T := TX3) (N := 19) hx hb hts hinM hown hK T.1 0 rfl rfl 10 (by decide) (hts _ (List.mem_cons_of_mem _ k3_f32)) (fun _ h9 => h9) rfl dX3_begin_185 ?_
                refine lv_iload_n hx hb dX3_begin_188 rfl (lv_at hl 3 rfl) ?_
                have h_189 : vp_in x1 32 := (mx_in (hg_up (by decide) hG) c_10)
                refine va_iald hx hb hK T.1 8 8 rfl rfl h_189 dX3_begin_189 ?_
                refine W.eq (g2 := F0 m 190 ls [.int ((up2 (up2 (up2 (up2 S x1.toNatClampNeg 8 x2) x1.toNatClampNeg 10 0) x1.toNatClampNeg 9 1) x1.toNatClampNeg 12 ((up2 (up2 (up2 S x1.toNatClampNeg 8 x2) x1.toNatClampNeg 10 0) x1.toNatClampNeg 9 1) x1.toNatClampNeg 6)) x1.toNatClampNeg 7), .int x1, .ref (am 11)]) rfl ?_
                refine lv_goto (tgt := 228) hx hb dX3_begin_190 (by decide) ?_
                have h_228 : vp_in x1 32 := (mx_in (hg_up (by decide) hG) c_10)
                refine va_iast (x := (up2 (up2 (up2 (up2 S x1.toNatClampNeg 8 x2) x1.toNatClampNeg 10 0) x1.toNatClampNeg 9 1) x1.toNatClampNeg 12 ((up2 (up2 (up2 S x1.toNatClampNeg 8 x2) x1.toNatClampNeg 10 0) x1.toNatClampNeg 9 1) x1.toNatClampNeg 6)) x1.toNatClampNeg 7) hx hb hK T.1 T.2.1 T.2.2 12 12 rfl rfl h_228 dX3_begin_228 (fun H locs hP hD hS => ?_)
                have T := md_set11 (i := x1.toNatClampNeg) (v := (up2 (up2 (up2 (up2 S x1.toNatClampNeg 8 x2) x1.toNatClampNeg 10 0) x1.toNatClampNeg 9 1) x1.toNatClampNeg 12 ((up2 (up2 (up2 S x1.toNatClampNeg 8 x2) x1.toNatClampNeg 10 0) x1.toNatClampNeg 9 1) x1.toNatClampNeg 6)) x1.toNatClampNeg 7) ⟨hP, hD, hS⟩
                refine lv_iconst (v := 1) hx hb dX3_begin_229 (by decide) ?_
                have e9 : sm_begin G S B n x1 x2 = (1, upd G 3 0, up2 (up2 (up2 (up2 (up2 S x1.toNatClampNeg 8 x2) x1.toNatClampNeg 10 0) x1.toNatClampNeg 9 1) x1.toNatClampNeg 12 ((up2 (up2 (up2 S x1.toNatClampNeg 8 x2) x1.toNatClampNeg 10 0) x1.toNatClampNeg 9 1) x1.toNatClampNeg 6)) x1.toNatClampNeg 11 ((up2 (up2 (up2 (up2 S x1.toNatClampNeg 8 x2) x1.toNatClampNeg 10 0) x1.toNatClampNeg 9 1) x1.toNatClampNeg 12 ((up2 (up2 (up2 S x1.toNatClampNeg 8 x2) x1.toNatClampNeg 10 0) x1.toNatClampNeg 9 1) x1.toNatClampNeg 6)) x1.toNatClampNeg 7)) := by unfold sm_begin; simp only [if_neg c_10, if_neg c_14, if_pos c_19, if_pos c_30, if_neg c_125, if_pos c_167, if_pos c_177]
                exact hw_iret C T (by decide) (by rw [e9]) (by rw [e9]) dX3_begin_230
              · skip
                refine lv_iload_n hx hb dX3_begin_180 rfl (lv_at hl 1 rfl) ?_
                refine lv_goto (tgt := 228) hx hb dX3_begin_181 (by decide) ?_
                have h_228 : vp_in x1 32 := (mx_in (hg_up (by decide) hG) c_10)
                refine va_iast (x := (sm_lowCeiling (up2 (up2 (up2 (up2 S x1.toNatClampNeg 8 x2) x1.toNatClampNeg 10 0) x1.toNatClampNeg 9 1) x1.toNatClampNeg 12 ((up2 (up2 (up2 S x1.toNatClampNeg 8 x2) x1.toNatClampNeg 10 0) x1.toNatClampNeg 9 1) x1.toNatClampNeg 6)) B n x1) - 4) hx hb hK T.1 T.2.1 T.2.2 12 12 rfl rfl h_228 dX3_begin_228 (fun H locs hP hD hS => ?_)
                have T := md_set11 (i := x1.toNatClampNeg) (v := (sm_lowCeiling (up2 (up2 (up2 (up2 S x1.toNatClampNeg 8 x2) x1.toNatClampNeg 10 0) x1.toNatClampNeg 9 1) x1.toNatClampNeg 12 ((up2 (up2 (up2 S x1.toNatClampNeg 8 x2) x1.toNatClampNeg 10 0) x1.toNatClampNeg 9 1) x1.toNatClampNeg 6)) B n x1) - 4) ⟨hP, hD, hS⟩
                refine lv_iconst (v := 1) hx hb dX3_begin_229 (by decide) ?_
                have e9 : sm_begin G S B n x1 x2 = (1, upd G 3 0, up2 (up2 (up2 (up2 (up2 S x1.toNatClampNeg 8 x2) x1.toNatClampNeg 10 0) x1.toNatClampNeg 9 1) x1.toNatClampNeg 12 ((up2 (up2 (up2 S x1.toNatClampNeg 8 x2) x1.toNatClampNeg 10 0) x1.toNatClampNeg 9 1) x1.toNatClampNeg 6)) x1.toNatClampNeg 11 ((sm_lowCeiling (up2 (up2 (up2 (up2 S x1.toNatClampNeg 8 x2) x1.toNatClampNeg 10 0) x1.toNatClampNeg 9 1) x1.toNatClampNeg 12 ((up2 (up2 (up2 S x1.toNatClampNeg 8 x2) x1.toNatClampNeg 10 0) x1.toNatClampNeg 9 1) x1.toNatClampNeg 6)) B n x1) - 4)) := by unfold sm_begin; simp only [if_neg c_10, if_neg c_14, if_pos c_19, if_pos c_30, if_neg c_125, if_pos c_167, if_neg c_177]
                exact hw_iret C T (by decide) (by rw [e9]) (by rw [e9]) dX3_begin_230
          · skip
            refine lv_iconst (v := (-1)) hx hb dX3_begin_128 (by decide) ?_
            refine lv_goto (tgt := 133) hx hb dX3_begin_129 (by decide) ?_
            have h_133 : vp_in x1 32 := (mx_in (hg_up (by decide) hG) c_10)
            refine va_iast (x := (-1)) hx hb hK T.1 T.2.1 T.2.2 10 10 rfl rfl h_133 dX3_begin_133 (fun H locs hP hD hS => ?_)
            have T := md_set9 (i := x1.toNatClampNeg) (v := (-1)) ⟨hP, hD, hS⟩
            refine lv_aload_n hx hb dX3_begin_134 rfl (lv_at hl 0 rfl) ?_
            refine va_get (D := D) (ci := 2) (v := .ref (am 12)) (C := RX3) (T := TX3) (N := 19) hx hb hts hinM hown hK T.1 0 rfl rfl 15 (by decide) (hts _ (List.mem_cons_of_mem _ k3_f47)) (fun _ h9 => h9) rfl dX3_begin_135 ?_
            refine lv_iload_n hx hb dX3_begin_138 rfl (lv_at hl 1 rfl) ?_
            refine lv_aload_n hx hb dX3_begin_139 rfl (lv_at hl 0 rfl) ?_
            refine va_get (D := D) (ci := 2) (v := .ref (am 6)) (C := RX3) (T := TX3) (N := 19) hx hb hts hinM hown hK T.1 0 rfl rfl 9 (by decide) (hts _ (List.mem_cons_of_mem _ k3_f29)) (fun _ h9 => h9) rfl dX3_begin_140 ?_
            refine lv_iload_n hx hb dX3_begin_143 rfl (lv_at hl 1 rfl) ?_
            have h_144 : vp_in x1 32 := (mx_in (hg_up (by decide) hG) c_10)
            refine va_iald hx hb hK T.1 7 7 rfl rfl h_144 dX3_begin_144 ?_
            refine W.eq (g2 := F0 m 145 ls [.int ((up2 (up2 (up2 S x1.toNatClampNeg 8 x2) x1.toNatClampNeg 10 0) x1.toNatClampNeg 9 (-1)) x1.toNatClampNeg 6), .int x1, .ref (am 12)]) rfl ?_
            have h_145 : vp_in x1 32 := (mx_in (hg_up (by decide) hG) c_10)
            refine va_iast (x := (up2 (up2 (up2 S x1.toNatClampNeg 8 x2) x1.toNatClampNeg 10 0) x1.toNatClampNeg 9 (-1)) x1.toNatClampNeg 6) hx hb hK T.1 T.2.1 T.2.2 13 13 rfl rfl h_145 dX3_begin_145 (fun H locs hP hD hS => ?_)
            have T := md_set12 (i := x1.toNatClampNeg) (v := (up2 (up2 (up2 S x1.toNatClampNeg 8 x2) x1.toNatClampNeg 10 0) x1.toNatClampNeg 9 (-1)) x1.toNatClampNeg 6) ⟨hP, hD, hS⟩
            refine lv_aload_n hx hb dX3_begin_146 rfl (lv_at hl 0 rfl) ?_
            refine lv_iload_n hx hb dX3_begin_147 rfl (lv_at hl 1 rfl) ?_
            refine hw_Vi (As := [.int x1]) (rest := []) C T (c_M_lowCeiling (mx_in (hg_up (by decide) hG) c_10) (hg_up (by decide) hG)) (cwV 1 hts (x3_in k3_m77 k3_i_lowCeiling k3_s_lowCeiling k3_ini k3_c_lowCeiling) rfl rfl rfl (by decide +kernel) ⟨Nat.le_of_ble_eq_true rfl, Nat.le_of_ble_eq_true rfl⟩) md_isO md_ad rfl hl.1 rfl (Nat.le_of_ble_eq_true rfl) dX3_begin_148 ⟨Nat.zero_le _, Nat.zero_le _⟩ (fun H locs T => ?_)
            refine lv_iconst (v := 4) hx hb dX3_begin_151 (by decide) ?_
            refine lv_isub hx hb dX3_begin_152 ?_
            refine lv_istore_n (lv' := [(3, .int ((sm_lowCeiling (up2 (up2 (up2 (up2 S x1.toNatClampNeg 8 x2) x1.toNatClampNeg 10 0) x1.toNatClampNeg 9 (-1)) x1.toNatClampNeg 12 ((up2 (up2 (up2 S x1.toNatClampNeg 8 x2) x1.toNatClampNeg 10 0) x1.toNatClampNeg 9 (-1)) x1.toNatClampNeg 6)) B n x1) - 4)), (0, .ref o), (1, .int x1), (2, .int x2)]) hx hb dX3_begin_153 rfl hl (by decide) rfl (fun ls hl => ?_)
            refine lv_aload_n hx hb dX3_begin_154 rfl (lv_at hl 1 rfl) ?_
            refine lv_iload_n hx hb dX3_begin_155 rfl (lv_at hl 2 rfl) ?_
            refine hw_Vi (As := [.int x1]) (rest := []) C T (c_M_highFloor (mx_in (hg_up (by decide) hG) c_10) (hg_up (by decide) hG)) (cwV 1 hts (x3_in k3_m81 k3_i_highFloor k3_s_highFloor k3_ini k3_c_highFloor) rfl rfl rfl (by decide +kernel) ⟨Nat.le_of_ble_eq_true rfl, Nat.le_of_ble_eq_true rfl⟩) md_isO md_ad rfl hl.1 rfl (Nat.le_of_ble_eq_true rfl) dX3_begin_156 ⟨Nat.zero_le _, Nat.zero_le _⟩ (fun H locs T => ?_)
            refine lv_istore (lv' := [(4, .int (sm_highFloor (up2 (up2 (up2 (up2 S x1.toNatClampNeg 8 x2) x1.toNatClampNeg 10 0) x1.toNatClampNeg 9 (-1)) x1.toNatClampNeg 12 ((up2 (up2 (up2 S x1.toNatClampNeg 8 x2) x1.toNatClampNeg 10 0) x1.toNatClampNeg 9 (-1)) x1.toNatClampNeg 6)) B n x1)), (3, .int ((sm_lowCeiling (up2 (up2 (up2 (up2 S x1.toNatClampNeg 8 x2) x1.toNatClampNeg 10 0) x1.toNatClampNeg 9 (-1)) x1.toNatClampNeg 12 ((up2 (up2 (up2 S x1.toNatClampNeg 8 x2) x1.toNatClampNeg 10 0) x1.toNatClampNeg 9 (-1)) x1.toNatClampNeg 6)) B n x1) - 4)), (0, .ref o), (1, .int x1), (2, .int x2)]) hx hb dX3_begin_159 hl (by decide) rfl (fun ls hl => ?_)
            refine lv_aload_n hx hb dX3_begin_161 rfl (lv_at hl 2 rfl) ?_
            refine va_get (D := D) (ci := 2) (v := .ref (am 11)) (C := RX3) (T := TX3) (N := 19) hx hb hts hinM hown hK T.1 0 rfl rfl 14 (by decide) (hts _ (List.mem_cons_of_mem _ k3_f44)) (fun _ h9 => h9) rfl dX3_begin_162 ?_
            refine lv_iload_n hx hb dX3_begin_165 rfl (lv_at hl 3 rfl) ?_
            refine lv_iload_n hx hb dX3_begin_166 rfl (lv_at hl 4 rfl) ?_
            refine lv_if_ne (tgt := 193) hx hb dX3_begin_167 (by decide) (fun c_167 => ?_) (fun c_167 => ?_)
            · skip
              refine lv_iload_n hx hb dX3_begin_193 rfl (lv_at hl 4 rfl) ?_
              refine lv_iconst (v := 1) hx hb dX3_begin_194 (by decide) ?_
              refine lv_icmp_ne (tgt := 206) hx hb dX3_begin_195 (by decide) (fun c_195 => absurd c_125 c_195) (fun _ => ?_)
              refine lv_aload_n hx hb dX3_begin_198 rfl (lv_at hl 2 rfl) ?_
              refine lv_iload_n hx hb dX3_begin_199 rfl (lv_at hl 3 rfl) ?_
              refine hw_Vi (As := [.int x1]) (rest := [.int x1, .ref (am 11)]) C T (c_M_lowFloor (mx_in (hg_up (by decide) hG) c_10) (hg_up (by decide) hG)) (cwV 1 hts (x3_in k3_m84 k3_i_lowFloor k3_s_lowFloor k3_ini k3_c_lowFloor) rfl rfl rfl (by decide +kernel) ⟨Nat.le_of_ble_eq_true rfl, Nat.le_of_ble_eq_true rfl⟩) md_isO md_ad rfl hl.1 rfl (Nat.le_of_ble_eq_true rfl) dX3_begin_200 ⟨Nat.zero_le _, Nat.zero_le _⟩ (fun H locs T => ?_)
              refine lv_goto (tgt := 228) hx hb dX3_begin_203 (by decide) ?_
              have h_228 : vp_in x1 32 := (mx_in (hg_up (by decide) hG) c_10)
              refine va_iast (x := sm_lowFloor (up2 (up2 (up2 (up2 S x1.toNatClampNeg 8 x2) x1.toNatClampNeg 10 0) x1.toNatClampNeg 9 (-1)) x1.toNatClampNeg 12 ((up2 (up2 (up2 S x1.toNatClampNeg 8 x2) x1.toNatClampNeg 10 0) x1.toNatClampNeg 9 (-1)) x1.toNatClampNeg 6)) B n x1) hx hb hK T.1 T.2.1 T.2.2 12 12 rfl rfl h_228 dX3_begin_228 (fun H locs hP hD hS => ?_)
              have T := md_set11 (i := x1.toNatClampNeg) (v := sm_lowFloor (up2 (up2 (up2 (up2 S x1.toNatClampNeg 8 x2) x1.toNatClampNeg 10 0) x1.toNatClampNeg 9 (-1)) x1.toNatClampNeg 12 ((up2 (up2 (up2 S x1.toNatClampNeg 8 x2) x1.toNatClampNeg 10 0) x1.toNatClampNeg 9 (-1)) x1.toNatClampNeg 6)) B n x1) ⟨hP, hD, hS⟩
              refine lv_iconst (v := 1) hx hb dX3_begin_229 (by decide) ?_
              have e9 : sm_begin G S B n x1 x2 = (1, upd G 3 0, up2 (up2 (up2 (up2 (up2 S x1.toNatClampNeg 8 x2) x1.toNatClampNeg 10 0) x1.toNatClampNeg 9 (-1)) x1.toNatClampNeg 12 ((up2 (up2 (up2 S x1.toNatClampNeg 8 x2) x1.toNatClampNeg 10 0) x1.toNatClampNeg 9 (-1)) x1.toNatClampNeg 6)) x1.toNatClampNeg 11 (sm_lowFloor (up2 (up2 (up2 (up2 S x1.toNatClampNeg 8 x2) x1.toNatClampNeg 10 0) x1.toNatClampNeg 9 (-1)) x1.toNatClampNeg 12 ((up2 (up2 (up2 S x1.toNatClampNeg 8 x2) x1.toNatClampNeg 10 0) x1.toNatClampNeg 9 (-1)) x1.toNatClampNeg 6)) B n x1)) := by unfold sm_begin; simp only [if_neg c_10, if_neg c_14, if_pos c_19, if_pos c_30, if_pos c_125, if_neg c_167]
              exact hw_iret C T (by decide) (by rw [e9]) (by rw [e9]) dX3_begin_230
            · skip
              refine lv_iload_n hx hb dX3_begin_170 rfl (lv_at hl 1 rfl) ?_
              refine lv_aload_n hx hb dX3_begin_171 rfl (lv_at hl 2 rfl) ?_
              refine va_get (D := D) (ci := 2) (v := .ref (am 7)) (C := RX3) (T := TX3) (N := 19) hx hb hts hinM hown hK T.1 0 rfl rfl 10 (by decide) (hts _ (List.mem_cons_of_mem _ k3_f32)) (fun _ h9 => h9) rfl dX3_begin_172 ?_
              refine lv_iload_n hx hb dX3_begin_175 rfl (lv_at hl 3 rfl) ?_
              have h_176 : vp_in x1 32 := (mx_in (hg_up (by decide) hG) c_10)
              refine va_iald hx hb hK T.1 8 8 rfl rfl h_176 dX3_begin_176 ?_
              refine W.eq (g2 := F0 m 177 ls [.int ((up2 (up2 (up2 (up2 S x1.toNatClampNeg 8 x2) x1.toNatClampNeg 10 0) x1.toNatClampNeg 9 (-1)) x1.toNatClampNeg 12 ((up2 (up2 (up2 S x1.toNatClampNeg 8 x2) x1.toNatClampNeg 10 0) x1.toNatClampNeg 9 (-1)) x1.toNatClampNeg 6)) x1.toNatClampNeg 7), .int ((sm_lowCeiling (up2 (up2 (up2 (up2 S x1.toNatClampNeg 8 x2) x1.toNatClampNeg 10 0) x1.toNatClampNeg 9 (-1)) x1.toNatClampNeg 12 ((up2 (up2 (up2 S x1.toNatClampNeg 8 x2) x1.toNatClampNeg 10 0) x1.toNatClampNeg 9 (-1)) x1.toNatClampNeg 6)) B n x1) - 4), .int x1, .ref (am 11)]) rfl ?_
              refine lv_icmp_le (tgt := 184) hx hb dX3_begin_177 (by decide) (fun c_177 => ?_) (fun c_177 => ?_)
              · skip
                refine lv_aload_n hx hb dX3_begin_184 rfl (lv_at hl 2 rfl) ?_
                refine va_get (D := D) (ci := 2) (v := .ref (am 7)) (C := RX3) (T := TX3) (N := 19) hx hb hts hinM hown hK T.1 0 rfl rfl 10 (by decide) (hts _ (List.mem_cons_of_mem _ k3_f32)) (fun _ h9 => h9) rfl dX3_begin_185 ?_
                refine lv_iload_n hx hb dX3_begin_188 rfl (lv_at hl 3 rfl) ?_
                have h_189 : vp_in x1 32 := (mx_in (hg_up (by decide) hG) c_10)
                refine va_iald hx hb hK T.1 8 8 rfl rfl h_189 dX3_begin_189 ?_
                refine W.eq (g2 := F0 m 190 ls [.int ((up2 (up2 (up2 (up2 S x1.toNatClampNeg 8 x2) x1.toNatClampNeg 10 0) x1.toNatClampNeg 9 (-1)) x1.toNatClampNeg 12 ((up2 (up2 (up2 S x1.toNatClampNeg 8 x2) x1.toNatClampNeg 10 0) x1.toNatClampNeg 9 (-1)) x1.toNatClampNeg 6)) x1.toNatClampNeg 7), .int x1, .ref (am 11)]) rfl ?_
                refine lv_goto (tgt := 228) hx hb dX3_begin_190 (by decide) ?_
                have h_228 : vp_in x1 32 := (mx_in (hg_up (by decide) hG) c_10)
                refine va_iast (x := (up2 (up2 (up2 (up2 S x1.toNatClampNeg 8 x2) x1.toNatClampNeg 10 0) x1.toNatClampNeg 9 (-1)) x1.toNatClampNeg 12 ((up2 (up2 (up2 S x1.toNatClampNeg 8 x2) x1.toNatClampNeg 10 0) x1.toNatClampNeg 9 (-1)) x1.toNatClampNeg 6)) x1.toNatClampNeg 7) hx hb hK T.1 T.2.1 T.2.2 12 12 rfl rfl h_228 dX3_begin_228 (fun H locs hP hD hS => ?_)
                have T := md_set11 (i := x1.toNatClampNeg) (v := (up2 (up2 (up2 (up2 S x1.toNatClampNeg 8 x2) x1.toNatClampNeg 10 0) x1.toNatClampNeg 9 (-1)) x1.toNatClampNeg 12 ((up2 (up2 (up2 S x1.toNatClampNeg 8 x2) x1.toNatClampNeg 10 0) x1.toNatClampNeg 9 (-1)) x1.toNatClampNeg 6)) x1.toNatClampNeg 7) ⟨hP, hD, hS⟩
                refine lv_iconst (v := 1) hx hb dX3_begin_229 (by decide) ?_
                have e9 : sm_begin G S B n x1 x2 = (1, upd G 3 0, up2 (up2 (up2 (up2 (up2 S x1.toNatClampNeg 8 x2) x1.toNatClampNeg 10 0) x1.toNatClampNeg 9 (-1)) x1.toNatClampNeg 12 ((up2 (up2 (up2 S x1.toNatClampNeg 8 x2) x1.toNatClampNeg 10 0) x1.toNatClampNeg 9 (-1)) x1.toNatClampNeg 6)) x1.toNatClampNeg 11 ((up2 (up2 (up2 (up2 S x1.toNatClampNeg 8 x2) x1.toNatClampNeg 10 0) x1.toNatClampNeg 9 (-1)) x1.toNatClampNeg 12 ((up2 (up2 (up2 S x1.toNatClampNeg 8 x2) x1.toNatClampNeg 10 0) x1.toNatClampNeg 9 (-1)) x1.toNatClampNeg 6)) x1.toNatClampNeg 7)) := by unfold sm_begin; simp only [if_neg c_10, if_neg c_14, if_pos c_19, if_pos c_30, if_pos c_125, if_pos c_167, if_pos c_177]
                exact hw_iret C T (by decide) (by rw [e9]) (by rw [e9]) dX3_begin_230
              · skip
                refine lv_iload_n hx hb dX3_begin_180 rfl (lv_at hl 1 rfl) ?_
                refine lv_goto (tgt := 228) hx hb dX3_begin_181 (by decide) ?_
                have h_228 : vp_in x1 32 := (mx_in (hg_up (by decide) hG) c_10)
                refine va_iast (x := (sm_lowCeiling (up2 (up2 (up2 (up2 S x1.toNatClampNeg 8 x2) x1.toNatClampNeg 10 0) x1.toNatClampNeg 9 (-1)) x1.toNatClampNeg 12 ((up2 (up2 (up2 S x1.toNatClampNeg 8 x2) x1.toNatClampNeg 10 0) x1.toNatClampNeg 9 (-1)) x1.toNatClampNeg 6)) B n x1) - 4) hx hb hK T.1 T.2.1 T.2.2 12 12 rfl rfl h_228 dX3_begin_228 (fun H locs hP hD hS => ?_)
                have T := md_set11 (i := x1.toNatClampNeg) (v := (sm_lowCeiling (up2 (up2 (up2 (up2 S x1.toNatClampNeg 8 x2) x1.toNatClampNeg 10 0) x1.toNatClampNeg 9 (-1)) x1.toNatClampNeg 12 ((up2 (up2 (up2 S x1.toNatClampNeg 8 x2) x1.toNatClampNeg 10 0) x1.toNatClampNeg 9 (-1)) x1.toNatClampNeg 6)) B n x1) - 4) ⟨hP, hD, hS⟩
                refine lv_iconst (v := 1) hx hb dX3_begin_229 (by decide) ?_
                have e9 : sm_begin G S B n x1 x2 = (1, upd G 3 0, up2 (up2 (up2 (up2 (up2 S x1.toNatClampNeg 8 x2) x1.toNatClampNeg 10 0) x1.toNatClampNeg 9 (-1)) x1.toNatClampNeg 12 ((up2 (up2 (up2 S x1.toNatClampNeg 8 x2) x1.toNatClampNeg 10 0) x1.toNatClampNeg 9 (-1)) x1.toNatClampNeg 6)) x1.toNatClampNeg 11 ((sm_lowCeiling (up2 (up2 (up2 (up2 S x1.toNatClampNeg 8 x2) x1.toNatClampNeg 10 0) x1.toNatClampNeg 9 (-1)) x1.toNatClampNeg 12 ((up2 (up2 (up2 S x1.toNatClampNeg 8 x2) x1.toNatClampNeg 10 0) x1.toNatClampNeg 9 (-1)) x1.toNatClampNeg 6)) B n x1) - 4)) := by unfold sm_begin; simp only [if_neg c_10, if_neg c_14, if_pos c_19, if_pos c_30, if_pos c_125, if_pos c_167, if_neg c_177]
                exact hw_iret C T (by decide) (by rw [e9]) (by rw [e9]) dX3_begin_230
        · skip
          refine lv_iload_n hx hb dX3_begin_33 rfl (lv_at hl 2 rfl) ?_
          refine lv_if_ne (tgt := 60) hx hb dX3_begin_34 (by decide) (fun c_34 => ?_) (fun c_34 => ?_)
          · skip
            refine lv_iconst (v := 0) hx hb dX3_begin_60 (by decide) ?_
            refine lv_istore_n (lv' := [(3, .int 0), (0, .ref o), (1, .int x1), (2, .int x2)]) hx hb dX3_begin_61 rfl hl (by decide) rfl (fun ls hl => ?_)
            refine lv_aload_n hx hb dX3_begin_62 rfl (lv_at hl 1 rfl) ?_
            refine va_get (D := D) (ci := 2) (v := .ref (am 9)) (C := RX3) (T := TX3) (N := 19) hx hb hts hinM hown hK T.1 0 rfl rfl 12 (by decide) (hts _ (List.mem_cons_of_mem _ k3_f38)) (fun _ h9 => h9) rfl dX3_begin_63 ?_
            refine lv_iload_n hx hb dX3_begin_66 rfl (lv_at hl 2 rfl) ?_
            refine lv_iload_n hx hb dX3_begin_67 rfl (lv_at hl 0 rfl) ?_
            refine lv_if_eq (tgt := 75) hx hb dX3_begin_68 (by decide) (fun _ => ?_) (fun c_68 => absurd c_68 (by decide))
            refine lv_aload_n hx hb dX3_begin_75 rfl (lv_at hl 1 rfl) ?_
            refine va_get (D := D) (ci := 2) (v := .ref (am 9)) (C := RX3) (T := TX3) (N := 19) hx hb hts hinM hown hK T.1 0 rfl rfl 12 (by decide) (hts _ (List.mem_cons_of_mem _ k3_f38)) (fun _ h9 => h9) rfl dX3_begin_76 ?_
            refine lv_iload_n hx hb dX3_begin_79 rfl (lv_at hl 2 rfl) ?_
            have h_80 : vp_in x1 32 := (mx_in (hg_up (by decide) hG) c_10)
            refine va_iald hx hb hK T.1 10 10 rfl rfl h_80 dX3_begin_80 ?_
            refine W.eq (g2 := F0 m 81 ls [.int (S x1.toNatClampNeg 9), .int x1, .ref (am 9)]) rfl ?_
            have h_81 : vp_in x1 32 := (mx_in (hg_up (by decide) hG) c_10)
            refine va_iast (x := S x1.toNatClampNeg 9) hx hb hK T.1 T.2.1 T.2.2 10 10 rfl rfl h_81 dX3_begin_81 (fun H locs hP hD hS => ?_)
            have T := md_set9 (i := x1.toNatClampNeg) (v := S x1.toNatClampNeg 9) ⟨hP, hD, hS⟩
            refine lv_aload_n hx hb dX3_begin_82 rfl (lv_at hl 1 rfl) ?_
            refine va_get (D := D) (ci := 2) (v := .ref (am 10)) (C := RX3) (T := TX3) (N := 19) hx hb hts hinM hown hK T.1 0 rfl rfl 13 (by decide) (hts _ (List.mem_cons_of_mem _ k3_f41)) (fun _ h9 => h9) rfl dX3_begin_83 ?_
            refine lv_iload_n hx hb dX3_begin_86 rfl (lv_at hl 2 rfl) ?_
            refine lv_iload_n hx hb dX3_begin_87 rfl (lv_at hl 0 rfl) ?_
            refine lv_if_eq (tgt := 95) hx hb dX3_begin_88 (by decide) (fun _ => ?_) (fun c_88 => absurd c_88 (by decide))
            refine lv_aload_n hx hb dX3_begin_95 rfl (lv_at hl 1 rfl) ?_
            refine va_get (D := D) (ci := 2) (v := .ref (am 10)) (C := RX3) (T := TX3) (N := 19) hx hb hts hinM hown hK T.1 0 rfl rfl 13 (by decide) (hts _ (List.mem_cons_of_mem _ k3_f41)) (fun _ h9 => h9) rfl dX3_begin_96 ?_
            refine lv_iload_n hx hb dX3_begin_99 rfl (lv_at hl 2 rfl) ?_
            have h_100 : vp_in x1 32 := (mx_in (hg_up (by decide) hG) c_10)
            refine va_iald hx hb hK T.1 11 11 rfl rfl h_100 dX3_begin_100 ?_
            refine W.eq (g2 := F0 m 101 ls [.int ((up2 S x1.toNatClampNeg 9 (S x1.toNatClampNeg 9)) x1.toNatClampNeg 10), .int x1, .ref (am 10)]) rfl ?_
            have h_101 : vp_in x1 32 := (mx_in (hg_up (by decide) hG) c_10)
            refine va_iast (x := (up2 S x1.toNatClampNeg 9 (S x1.toNatClampNeg 9)) x1.toNatClampNeg 10) hx hb hK T.1 T.2.1 T.2.2 11 11 rfl rfl h_101 dX3_begin_101 (fun H locs hP hD hS => ?_)
            have T := md_set10 (i := x1.toNatClampNeg) (v := (up2 S x1.toNatClampNeg 9 (S x1.toNatClampNeg 9)) x1.toNatClampNeg 10) ⟨hP, hD, hS⟩
            refine lv_iload_n hx hb dX3_begin_102 rfl (lv_at hl 0 rfl) ?_
            have e9 : sm_begin G S B n x1 x2 = (0, upd G 3 0, up2 (up2 S x1.toNatClampNeg 9 (S x1.toNatClampNeg 9)) x1.toNatClampNeg 10 ((up2 S x1.toNatClampNeg 9 (S x1.toNatClampNeg 9)) x1.toNatClampNeg 10)) := by unfold sm_begin; simp only [if_neg c_10, if_neg c_14, if_pos c_19, if_neg c_30, if_neg c_34]
            exact hw_iret C T (by decide) (by rw [e9]) (by rw [e9]) dX3_begin_103
          · skip
            refine lv_aload_n hx hb dX3_begin_37 rfl (lv_at hl 0 rfl) ?_
            refine va_get (D := D) (ci := 2) (v := .ref (am 8)) (C := RX3) (T := TX3) (N := 19) hx hb hts hinM hown hK T.1 0 rfl rfl 11 (by decide) (hts _ (List.mem_cons_of_mem _ k3_f35)) (fun _ h9 => h9) rfl dX3_begin_38 ?_
            refine lv_iload_n hx hb dX3_begin_41 rfl (lv_at hl 1 rfl) ?_
            have h_42 : vp_in x1 32 := (mx_in (hg_up (by decide) hG) c_10)
            refine va_iald hx hb hK T.1 9 9 rfl rfl h_42 dX3_begin_42 ?_
            refine W.eq (g2 := F0 m 43 ls [.int (S x1.toNatClampNeg 8)]) rfl ?_
            refine lv_if_ne (tgt := 60) hx hb dX3_begin_43 (by decide) (fun c_43 => ?_) (fun c_43 => ?_)
            · skip
              refine lv_iconst (v := 0) hx hb dX3_begin_60 (by decide) ?_
              refine lv_istore_n (lv' := [(3, .int 0), (0, .ref o), (1, .int x1), (2, .int x2)]) hx hb dX3_begin_61 rfl hl (by decide) rfl (fun ls hl => ?_)
              refine lv_aload_n hx hb dX3_begin_62 rfl (lv_at hl 1 rfl) ?_
              refine va_get (D := D) (ci := 2) (v := .ref (am 9)) (C := RX3) (T := TX3) (N := 19) hx hb hts hinM hown hK T.1 0 rfl rfl 12 (by decide) (hts _ (List.mem_cons_of_mem _ k3_f38)) (fun _ h9 => h9) rfl dX3_begin_63 ?_
              refine lv_iload_n hx hb dX3_begin_66 rfl (lv_at hl 2 rfl) ?_
              refine lv_iload_n hx hb dX3_begin_67 rfl (lv_at hl 0 rfl) ?_
              refine lv_if_eq (tgt := 75) hx hb dX3_begin_68 (by decide) (fun _ => ?_) (fun c_68 => absurd c_68 (by decide))
              refine lv_aload_n hx hb dX3_begin_75 rfl (lv_at hl 1 rfl) ?_
              refine va_get (D := D) (ci := 2) (v := .ref (am 9)) (C := RX3) (T := TX3) (N := 19) hx hb hts hinM hown hK T.1 0 rfl rfl 12 (by decide) (hts _ (List.mem_cons_of_mem _ k3_f38)) (fun _ h9 => h9) rfl dX3_begin_76 ?_
              refine lv_iload_n hx hb dX3_begin_79 rfl (lv_at hl 2 rfl) ?_
              have h_80 : vp_in x1 32 := (mx_in (hg_up (by decide) hG) c_10)
              refine va_iald hx hb hK T.1 10 10 rfl rfl h_80 dX3_begin_80 ?_
              refine W.eq (g2 := F0 m 81 ls [.int (S x1.toNatClampNeg 9), .int x1, .ref (am 9)]) rfl ?_
              have h_81 : vp_in x1 32 := (mx_in (hg_up (by decide) hG) c_10)
              refine va_iast (x := S x1.toNatClampNeg 9) hx hb hK T.1 T.2.1 T.2.2 10 10 rfl rfl h_81 dX3_begin_81 (fun H locs hP hD hS => ?_)
              have T := md_set9 (i := x1.toNatClampNeg) (v := S x1.toNatClampNeg 9) ⟨hP, hD, hS⟩
              refine lv_aload_n hx hb dX3_begin_82 rfl (lv_at hl 1 rfl) ?_
              refine va_get (D := D) (ci := 2) (v := .ref (am 10)) (C := RX3) (T := TX3) (N := 19) hx hb hts hinM hown hK T.1 0 rfl rfl 13 (by decide) (hts _ (List.mem_cons_of_mem _ k3_f41)) (fun _ h9 => h9) rfl dX3_begin_83 ?_
              refine lv_iload_n hx hb dX3_begin_86 rfl (lv_at hl 2 rfl) ?_
              refine lv_iload_n hx hb dX3_begin_87 rfl (lv_at hl 0 rfl) ?_
              refine lv_if_eq (tgt := 95) hx hb dX3_begin_88 (by decide) (fun _ => ?_) (fun c_88 => absurd c_88 (by decide))
              refine lv_aload_n hx hb dX3_begin_95 rfl (lv_at hl 1 rfl) ?_
              refine va_get (D := D) (ci := 2) (v := .ref (am 10)) (C := RX3) (T := TX3) (N := 19) hx hb hts hinM hown hK T.1 0 rfl rfl 13 (by decide) (hts _ (List.mem_cons_of_mem _ k3_f41)) (fun _ h9 => h9) rfl dX3_begin_96 ?_
              refine lv_iload_n hx hb dX3_begin_99 rfl (lv_at hl 2 rfl) ?_
              have h_100 : vp_in x1 32 := (mx_in (hg_up (by decide) hG) c_10)
              refine va_iald hx hb hK T.1 11 11 rfl rfl h_100 dX3_begin_100 ?_
              refine W.eq (g2 := F0 m 101 ls [.int ((up2 S x1.toNatClampNeg 9 (S x1.toNatClampNeg 9)) x1.toNatClampNeg 10), .int x1, .ref (am 10)]) rfl ?_
              have h_101 : vp_in x1 32 := (mx_in (hg_up (by decide) hG) c_10)
              refine va_iast (x := (up2 S x1.toNatClampNeg 9 (S x1.toNatClampNeg 9)) x1.toNatClampNeg 10) hx hb hK T.1 T.2.1 T.2.2 11 11 rfl rfl h_101 dX3_begin_101 (fun H locs hP hD hS => ?_)
              have T := md_set10 (i := x1.toNatClampNeg) (v := (up2 S x1.toNatClampNeg 9 (S x1.toNatClampNeg 9)) x1.toNatClampNeg 10) ⟨hP, hD, hS⟩
              refine lv_iload_n hx hb dX3_begin_102 rfl (lv_at hl 0 rfl) ?_
              have e9 : sm_begin G S B n x1 x2 = (0, upd G 3 0, up2 (up2 S x1.toNatClampNeg 9 (S x1.toNatClampNeg 9)) x1.toNatClampNeg 10 ((up2 S x1.toNatClampNeg 9 (S x1.toNatClampNeg 9)) x1.toNatClampNeg 10)) := by unfold sm_begin; simp only [if_neg c_10, if_neg c_14, if_pos c_19, if_neg c_30, if_pos c_34, if_neg c_43]
              exact hw_iret C T (by decide) (by rw [e9]) (by rw [e9]) dX3_begin_103
            · skip
              refine lv_aload_n hx hb dX3_begin_46 rfl (lv_at hl 0 rfl) ?_
              refine va_get (D := D) (ci := 2) (v := .ref (am 9)) (C := RX3) (T := TX3) (N := 19) hx hb hts hinM hown hK T.1 0 rfl rfl 12 (by decide) (hts _ (List.mem_cons_of_mem _ k3_f38)) (fun _ h9 => h9) rfl dX3_begin_47 ?_
              refine lv_iload_n hx hb dX3_begin_50 rfl (lv_at hl 1 rfl) ?_
              have h_51 : vp_in x1 32 := (mx_in (hg_up (by decide) hG) c_10)
              refine va_iald hx hb hK T.1 10 10 rfl rfl h_51 dX3_begin_51 ?_
              refine W.eq (g2 := F0 m 52 ls [.int (S x1.toNatClampNeg 9)]) rfl ?_
              refine lv_iconst (v := 1) hx hb dX3_begin_52 (by decide) ?_
              refine lv_icmp_ge (tgt := 60) hx hb dX3_begin_53 (by decide) (fun c_53 => ?_) (fun c_53 => ?_)
              · skip
                refine lv_iconst (v := 0) hx hb dX3_begin_60 (by decide) ?_
                refine lv_istore_n (lv' := [(3, .int 0), (0, .ref o), (1, .int x1), (2, .int x2)]) hx hb dX3_begin_61 rfl hl (by decide) rfl (fun ls hl => ?_)
                refine lv_aload_n hx hb dX3_begin_62 rfl (lv_at hl 1 rfl) ?_
                refine va_get (D := D) (ci := 2) (v := .ref (am 9)) (C := RX3) (T := TX3) (N := 19) hx hb hts hinM hown hK T.1 0 rfl rfl 12 (by decide) (hts _ (List.mem_cons_of_mem _ k3_f38)) (fun _ h9 => h9) rfl dX3_begin_63 ?_
                refine lv_iload_n hx hb dX3_begin_66 rfl (lv_at hl 2 rfl) ?_
                refine lv_iload_n hx hb dX3_begin_67 rfl (lv_at hl 0 rfl) ?_
                refine lv_if_eq (tgt := 75) hx hb dX3_begin_68 (by decide) (fun _ => ?_) (fun c_68 => absurd c_68 (by decide))
                refine lv_aload_n hx hb dX3_begin_75 rfl (lv_at hl 1 rfl) ?_
                refine va_get (D := D) (ci := 2) (v := .ref (am 9)) (C := RX3) (T := TX3) (N := 19) hx hb hts hinM hown hK T.1 0 rfl rfl 12 (by decide) (hts _ (List.mem_cons_of_mem _ k3_f38)) (fun _ h9 => h9) rfl dX3_begin_76 ?_
                refine lv_iload_n hx hb dX3_begin_79 rfl (lv_at hl 2 rfl) ?_
                have h_80 : vp_in x1 32 := (mx_in (hg_up (by decide) hG) c_10)
                refine va_iald hx hb hK T.1 10 10 rfl rfl h_80 dX3_begin_80 ?_
                refine W.eq (g2 := F0 m 81 ls [.int (S x1.toNatClampNeg 9), .int x1, .ref (am 9)]) rfl ?_
                have h_81 : vp_in x1 32 := (mx_in (hg_up (by decide) hG) c_10)
                refine va_iast (x := S x1.toNatClampNeg 9) hx hb hK T.1 T.2.1 T.2.2 10 10 rfl rfl h_81 dX3_begin_81 (fun H locs hP hD hS => ?_)
                have T := md_set9 (i := x1.toNatClampNeg) (v := S x1.toNatClampNeg 9) ⟨hP, hD, hS⟩
                refine lv_aload_n hx hb dX3_begin_82 rfl (lv_at hl 1 rfl) ?_
                refine va_get (D := D) (ci := 2) (v := .ref (am 10)) (C := RX3) (T := TX3) (N := 19) hx hb hts hinM hown hK T.1 0 rfl rfl 13 (by decide) (hts _ (List.mem_cons_of_mem _ k3_f41)) (fun _ h9 => h9) rfl dX3_begin_83 ?_
                refine lv_iload_n hx hb dX3_begin_86 rfl (lv_at hl 2 rfl) ?_
                refine lv_iload_n hx hb dX3_begin_87 rfl (lv_at hl 0 rfl) ?_
                refine lv_if_eq (tgt := 95) hx hb dX3_begin_88 (by decide) (fun _ => ?_) (fun c_88 => absurd c_88 (by decide))
                refine lv_aload_n hx hb dX3_begin_95 rfl (lv_at hl 1 rfl) ?_
                refine va_get (D := D) (ci := 2) (v := .ref (am 10)) (C := RX3) (T := TX3) (N := 19) hx hb hts hinM hown hK T.1 0 rfl rfl 13 (by decide) (hts _ (List.mem_cons_of_mem _ k3_f41)) (fun _ h9 => h9) rfl dX3_begin_96 ?_
                refine lv_iload_n hx hb dX3_begin_99 rfl (lv_at hl 2 rfl) ?_
                have h_100 : vp_in x1 32 := (mx_in (hg_up (by decide) hG) c_10)
                refine va_iald hx hb hK T.1 11 11 rfl rfl h_100 dX3_begin_100 ?_
                refine W.eq (g2 := F0 m 101 ls [.int ((up2 S x1.toNatClampNeg 9 (S x1.toNatClampNeg 9)) x1.toNatClampNeg 10), .int x1, .ref (am 10)]) rfl ?_
                have h_101 : vp_in x1 32 := (mx_in (hg_up (by decide) hG) c_10)
                refine va_iast (x := (up2 S x1.toNatClampNeg 9 (S x1.toNatClampNeg 9)) x1.toNatClampNeg 10) hx hb hK T.1 T.2.1 T.2.2 11 11 rfl rfl h_101 dX3_begin_101 (fun H locs hP hD hS => ?_)
                have T := md_set10 (i := x1.toNatClampNeg) (v := (up2 S x1.toNatClampNeg 9 (S x1.toNatClampNeg 9)) x1.toNatClampNeg 10) ⟨hP, hD, hS⟩
                refine lv_iload_n hx hb dX3_begin_102 rfl (lv_at hl 0 rfl) ?_
                have e9 : sm_begin G S B n x1 x2 = (0, upd G 3 0, up2 (up2 S x1.toNatClampNeg 9 (S x1.toNatClampNeg 9)) x1.toNatClampNeg 10 ((up2 S x1.toNatClampNeg 9 (S x1.toNatClampNeg 9)) x1.toNatClampNeg 10)) := by unfold sm_begin; simp only [if_neg c_10, if_neg c_14, if_pos c_19, if_neg c_30, if_pos c_34, if_pos c_43, if_pos c_53]
                exact hw_iret C T (by decide) (by rw [e9]) (by rw [e9]) dX3_begin_103
              · skip
                refine lv_iconst (v := 1) hx hb dX3_begin_56 (by decide) ?_
                refine lv_goto (tgt := 61) hx hb dX3_begin_57 (by decide) ?_
                refine lv_istore_n (lv' := [(3, .int 1), (0, .ref o), (1, .int x1), (2, .int x2)]) hx hb dX3_begin_61 rfl hl (by decide) rfl (fun ls hl => ?_)
                refine lv_aload_n hx hb dX3_begin_62 rfl (lv_at hl 1 rfl) ?_
                refine va_get (D := D) (ci := 2) (v := .ref (am 9)) (C := RX3) (T := TX3) (N := 19) hx hb hts hinM hown hK T.1 0 rfl rfl 12 (by decide) (hts _ (List.mem_cons_of_mem _ k3_f38)) (fun _ h9 => h9) rfl dX3_begin_63 ?_
                refine lv_iload_n hx hb dX3_begin_66 rfl (lv_at hl 2 rfl) ?_
                refine lv_iload_n hx hb dX3_begin_67 rfl (lv_at hl 0 rfl) ?_
                refine lv_if_eq (tgt := 75) hx hb dX3_begin_68 (by decide) (fun c_68 => absurd c_68 (by decide)) (fun _ => ?_)
                refine lv_iconst (v := 1) hx hb dX3_begin_71 (by decide) ?_
                refine lv_goto (tgt := 81) hx hb dX3_begin_72 (by decide) ?_
                have h_81 : vp_in x1 32 := (mx_in (hg_up (by decide) hG) c_10)
                refine va_iast (x := 1) hx hb hK T.1 T.2.1 T.2.2 10 10 rfl rfl h_81 dX3_begin_81 (fun H locs hP hD hS => ?_)
                have T := md_set9 (i := x1.toNatClampNeg) (v := 1) ⟨hP, hD, hS⟩
                refine lv_aload_n hx hb dX3_begin_82 rfl (lv_at hl 1 rfl) ?_
                refine va_get (D := D) (ci := 2) (v := .ref (am 10)) (C := RX3) (T := TX3) (N := 19) hx hb hts hinM hown hK T.1 0 rfl rfl 13 (by decide) (hts _ (List.mem_cons_of_mem _ k3_f41)) (fun _ h9 => h9) rfl dX3_begin_83 ?_
                refine lv_iload_n hx hb dX3_begin_86 rfl (lv_at hl 2 rfl) ?_
                refine lv_iload_n hx hb dX3_begin_87 rfl (lv_at hl 0 rfl) ?_
                refine lv_if_eq (tgt := 95) hx hb dX3_begin_88 (by decide) (fun c_88 => absurd c_88 (by decide)) (fun _ => ?_)
                refine lv_iconst (v := 0) hx hb dX3_begin_91 (by decide) ?_
                refine lv_goto (tgt := 101) hx hb dX3_begin_92 (by decide) ?_
                have h_101 : vp_in x1 32 := (mx_in (hg_up (by decide) hG) c_10)
                refine va_iast (x := 0) hx hb hK T.1 T.2.1 T.2.2 11 11 rfl rfl h_101 dX3_begin_101 (fun H locs hP hD hS => ?_)
                have T := md_set10 (i := x1.toNatClampNeg) (v := 0) ⟨hP, hD, hS⟩
                refine lv_iload_n hx hb dX3_begin_102 rfl (lv_at hl 0 rfl) ?_
                have e9 : sm_begin G S B n x1 x2 = (1, upd G 3 0, up2 (up2 S x1.toNatClampNeg 9 1) x1.toNatClampNeg 10 0) := by unfold sm_begin; simp only [if_neg c_10, if_neg c_14, if_pos c_19, if_neg c_30, if_pos c_34, if_pos c_43, if_neg c_53]
                exact hw_iret C T (by decide) (by rw [e9]) (by rw [e9]) dX3_begin_103
      · skip
        refine lv_iconst (v := 0) hx hb dX3_begin_22 (by decide) ?_
        have e9 : sm_begin G S B n x1 x2 = (0, upd G 3 0, S) := by unfold sm_begin; simp only [if_neg c_10, if_neg c_14, if_neg c_19]
        exact hw_iret C T (by decide) (by rw [e9]) (by rw [e9]) dX3_begin_23
/-- tag: its loop, by what is left to do -/
def sm_tag_loop (B : Nat → Int32) (n : Nat) (x1 : Int32) (x2 : Int32) : Nat → Nat → Int32 → (Nat → Int32) → (Nat → Nat → Int32) → Int32 × (Nat → Int32) × (Nat → Nat → Int32)
  | 0, _, x, G, S => (x, G, S)
  | k + 1, i, x, G, S => if (S i 4) = x1 then (if ((sm_begin G S B n (nI i) x2).1) = 0 then (sm_tag_loop B n x1 x2 k (i + 1) (x + 0) ((sm_begin G S B n (nI i) x2).2.1) ((sm_begin G S B n (nI i) x2).2.2)) else (sm_tag_loop B n x1 x2 k (i + 1) (x + 1) ((sm_begin G S B n (nI i) x2).2.1) ((sm_begin G S B n (nI i) x2).2.2))) else (sm_tag_loop B n x1 x2 k (i + 1) (x + 0) G S)
set_option maxHeartbeats 4000000 in
set_option maxRecDepth 100000 in
theorem lp_m_tag {p : Program} {e : Env} {s : State} {m : MethodId} {args : Array Value} {below : List Frame} {meth : Method} {c : Code} {A : Nat → Prop} {x1 : Int32} {x2 : Int32}  (C : hw_C p s m args meth c cX3_tag (some .int) 5 wsX3_tag yX3_tag.cls D (t0 :: md_tys cm) A) :
    ∀ (k i : Nat) (x : Int32) (G : Nat → Int32) (S : Nat → Nat → Int32), i + k = n → hg_n G n → ∀ (ls : Array Slot) (H : Heap) (locs : List Loc), hw_T D A s.heap (md_W o am cm G S B) H locs → lv_has ls 5 [(0, .ref o), (1, .int x1), (2, .int x2), (3, .int x), (4, .int (nI i))] → W p l e { frames := 2, cells := 0, slots := 0, locals := 47 } s m args below meth c H locs 0 0 (MQ below (va_Qi (fun (r' : Int32) (_ : Unit) => r' = (sm_tag_loop B n x1 x2 k i x G S).1) (fun _ t => va_P D vwCl (md_W o am cm (sm_tag_loop B n x1 x2 k i x G S).2.1 (sm_tag_loop B n x1 x2 k i x G S).2.2 B) t.heap) A) args s 0 0 A) (F0 m 32 ls []) := by
  have hx := C.1.1
  have hb := C.1.2.1
  have hml := C.1.2.2.1
  have hown : s.vm.findClass RX3 = some m.cls := C.1.2.2.2.1
  have hts := C.1.2.2.2.2
  have hK := C.2.2.2.1
  have hinM : ∀ w ∈ wsX30, w ∈ wsX3_tag := fun w h => List.mem_cons_of_mem _ (inX3 w h)
  intro k
  induction k with
  | zero =>
    intro i x G S hik hG ls H locs T hl
    have hn32 := hG.1
    refine lv_iload hx hb dX3_tag_32 (lv_at hl 4 rfl) ?_
    refine lv_aload_n hx hb dX3_tag_34 rfl (lv_at hl 0 rfl) ?_
    refine va_get (D := D) (ci := 2) (v := .int (G 0)) (C := RX3) (T := TX3) (N := 19) hx hb hts hinM hown hK T.1 0 rfl rfl 1 (by decide) (hts _ (List.mem_cons_of_mem _ k3_f57)) (fun _ h9 => h9) rfl dX3_tag_35 ?_
    refine lv_icmp_ge (tgt := 76) hx hb dX3_tag_38 (by decide) (fun c_38 => ?_) (fun c_38 => absurd (show G 0 ≤ nI i by rw [hG.2]; exact nI_le (show n ≤ i by omega) (by omega)) c_38)
    refine lv_iload_n hx hb dX3_tag_76 rfl (lv_at hl 3 rfl) ?_
    have e9 : sm_tag_loop B n x1 x2 0 i x G S = (x, G, S) := by rw [sm_tag_loop]
    exact hw_iret C T rfl (by rw [e9]) (by rw [e9]) dX3_tag_77
  | succ k ih =>
    intro i x G S hik hG ls H locs T hl
    have hn32 := hG.1
    refine lv_iload hx hb dX3_tag_32 (lv_at hl 4 rfl) ?_
    refine lv_aload_n hx hb dX3_tag_34 rfl (lv_at hl 0 rfl) ?_
    refine va_get (D := D) (ci := 2) (v := .int (G 0)) (C := RX3) (T := TX3) (N := 19) hx hb hts hinM hown hK T.1 0 rfl rfl 1 (by decide) (hts _ (List.mem_cons_of_mem _ k3_f57)) (fun _ h9 => h9) rfl dX3_tag_35 ?_
    refine lv_icmp_ge (tgt := 76) hx hb dX3_tag_38 (by decide) (fun c_38 => absurd c_38 (show ¬ G 0 ≤ nI i by rw [hG.2]; exact nI_ge (show i < n by omega) (by omega))) (fun c_38 => ?_)
    refine lv_iload_n hx hb dX3_tag_41 rfl (lv_at hl 3 rfl) ?_
    refine lv_aload_n hx hb dX3_tag_42 rfl (lv_at hl 0 rfl) ?_
    refine va_get (D := D) (ci := 2) (v := .ref (am 4)) (C := RX3) (T := TX3) (N := 19) hx hb hts hinM hown hK T.1 0 rfl rfl 6 (by decide) (hts _ (List.mem_cons_of_mem _ k3_f22)) (fun _ h9 => h9) rfl dX3_tag_43 ?_
    refine lv_iload hx hb dX3_tag_46 (lv_at hl 4 rfl) ?_
    have h_48 : vp_in (nI i) 32 := vp_in_nI (show i < 32 by omega) (by decide)
    refine va_iald hx hb hK T.1 5 5 rfl rfl h_48 dX3_tag_48 ?_
    refine W.eq (g2 := F0 m 49 ls [.int (S i 4), .int x]) (by rw [nI_clamp (show i < 2 ^ 31 by omega)] <;> rfl) ?_
    refine lv_iload_n hx hb dX3_tag_49 rfl (lv_at hl 1 rfl) ?_
    refine lv_icmp_ne (tgt := 67) hx hb dX3_tag_50 (by decide) (fun c_50 => ?_) (fun c_50 => ?_)
    · skip
      refine lv_iconst (v := 0) hx hb dX3_tag_67 (by decide) ?_
      refine lv_iadd hx hb dX3_tag_68 ?_
      refine lv_istore_n (lv' := [(3, .int (x + 0)), (0, .ref o), (1, .int x1), (2, .int x2), (4, .int (nI i))]) hx hb dX3_tag_69 rfl hl (by decide) rfl (fun ls hl => ?_)
      refine lv_iinc (v := nI (i + 1)) (lv' := [(4, .int (nI (i + 1))), (3, .int (x + 0)), (0, .ref o), (1, .int x1), (2, .int x2)]) hx hb dX3_tag_70 hl (k := 4) rfl (nI_1 i) (by decide) rfl (fun ls hl => ?_)
      refine lv_goto (tgt := 32) hx hb dX3_tag_73 (by decide) ?_
      rw [show sm_tag_loop B n x1 x2 (k + 1) i x G S = sm_tag_loop B n x1 x2 k (i + 1) (x + 0) G S from by rw [sm_tag_loop]; simp only [if_neg c_50]]
      exact ih (i + 1) _ _ _ (by omega) hG _ _ _ T (lv_sub hl [2, 3, 4, 1, 0] rfl)
    · skip
      refine lv_aload_n hx hb dX3_tag_53 rfl (lv_at hl 0 rfl) ?_
      refine lv_iload hx hb dX3_tag_54 (lv_at hl 4 rfl) ?_
      refine lv_iload_n hx hb dX3_tag_56 rfl (lv_at hl 2 rfl) ?_
      refine hw_Vi (As := [.int (nI i), .int x2]) (rest := [.int x]) C T (c_M_begin hG) (cwV 2 hts (x3_in k3_m87 k3_i_begin k3_s_begin k3_ini k3_c_begin) rfl rfl rfl (by decide +kernel) ⟨Nat.le_of_ble_eq_true rfl, Nat.le_of_ble_eq_true rfl⟩) md_isO md_ad rfl hl.1 rfl (Nat.le_of_ble_eq_true rfl) dX3_tag_57 ⟨Nat.zero_le _, Nat.zero_le _⟩ (fun H locs T => ?_)
      refine lv_if_eq (tgt := 67) hx hb dX3_tag_60 (by decide) (fun c_60 => ?_) (fun c_60 => ?_)
      · skip
        refine lv_iconst (v := 0) hx hb dX3_tag_67 (by decide) ?_
        refine lv_iadd hx hb dX3_tag_68 ?_
        refine lv_istore_n (lv' := [(3, .int (x + 0)), (0, .ref o), (1, .int x1), (2, .int x2), (4, .int (nI i))]) hx hb dX3_tag_69 rfl hl (by decide) rfl (fun ls hl => ?_)
        refine lv_iinc (v := nI (i + 1)) (lv' := [(4, .int (nI (i + 1))), (3, .int (x + 0)), (0, .ref o), (1, .int x1), (2, .int x2)]) hx hb dX3_tag_70 hl (k := 4) rfl (nI_1 i) (by decide) rfl (fun ls hl => ?_)
        refine lv_goto (tgt := 32) hx hb dX3_tag_73 (by decide) ?_
        rw [show sm_tag_loop B n x1 x2 (k + 1) i x G S = sm_tag_loop B n x1 x2 k (i + 1) (x + 0) ((sm_begin G S B n (nI i) x2).2.1) ((sm_begin G S B n (nI i) x2).2.2) from by rw [sm_tag_loop]; simp only [if_pos c_50, if_pos c_60]]
        exact ih (i + 1) _ _ _ (by omega) (sm_begin_n hG) _ _ _ T (lv_sub hl [2, 3, 4, 1, 0] rfl)
      · skip
        refine lv_iconst (v := 1) hx hb dX3_tag_63 (by decide) ?_
        refine lv_goto (tgt := 68) hx hb dX3_tag_64 (by decide) ?_
        refine lv_iadd hx hb dX3_tag_68 ?_
        refine lv_istore_n (lv' := [(3, .int (x + 1)), (0, .ref o), (1, .int x1), (2, .int x2), (4, .int (nI i))]) hx hb dX3_tag_69 rfl hl (by decide) rfl (fun ls hl => ?_)
        refine lv_iinc (v := nI (i + 1)) (lv' := [(4, .int (nI (i + 1))), (3, .int (x + 1)), (0, .ref o), (1, .int x1), (2, .int x2)]) hx hb dX3_tag_70 hl (k := 4) rfl (nI_1 i) (by decide) rfl (fun ls hl => ?_)
        refine lv_goto (tgt := 32) hx hb dX3_tag_73 (by decide) ?_
        rw [show sm_tag_loop B n x1 x2 (k + 1) i x G S = sm_tag_loop B n x1 x2 k (i + 1) (x + 1) ((sm_begin G S B n (nI i) x2).2.1) ((sm_begin G S B n (nI i) x2).2.2) from by rw [sm_tag_loop]; simp only [if_pos c_50, if_neg c_60]]
        exact ih (i + 1) _ _ _ (by omega) (sm_begin_n hG) _ _ _ T (lv_sub hl [2, 3, 4, 1, 0] rfl)
/-- tag, its picture -/
def sm_tag (G : Nat → Int32) (S : Nat → Nat → Int32) (B : Nat → Int32) (n : Nat) (x1 : Int32) (x2 : Int32) : Int32 × (Nat → Int32) × (Nat → Nat → Int32) := if x1 < 0 then ((-1), upd G 3 0, S) else (if 255 < x1 then ((-1), upd G 3 0, S) else (if x2 < 0 then ((-1), upd G 3 0, S) else (if x2 ≤ 2 then (sm_tag_loop B n x1 x2 n 0 0 (upd G 3 0) S) else ((-1), upd G 3 0, S))))
set_option maxHeartbeats 4000000 in
set_option maxRecDepth 100000 in
theorem c_M_tag {x1 : Int32} {x2 : Int32} (hG : hg_n G n) : MI l D (t0 :: md_tys cm) yX3_tag wsX3_tag { frames := 2, cells := 0, slots := 0, locals := 47 } [.ref o, .int x1, .int x2] (md_W o am cm G S B) ((sm_tag G S B n x1 x2).1) (md_W o am cm (sm_tag G S B n x1 x2).2.1 (sm_tag G S B n x1 x2).2.2 B) := by
  refine MI.start (cc := cX3_tag) (maxL := 5) (by decide) rfl (Nat.le_of_ble_eq_true rfl) (fun p e s m args below meth c A ls C T hl => ?_)
  have hx := C.1.1
  have hb := C.1.2.1
  have hml := C.1.2.2.1
  have hown : s.vm.findClass RX3 = some m.cls := C.1.2.2.2.1
  have hts := C.1.2.2.2.2
  have hK := C.2.2.2.1
  have hinM : ∀ w ∈ wsX30, w ∈ wsX3_tag := fun w h => List.mem_cons_of_mem _ (inX3 w h)
  have hn32 := hG.1
  have hl : lv_has ls 5 [(0, .ref o), (1, .int x1), (2, .int x2)] := hl
  refine lv_aload_n hx hb dX3_tag_0 rfl (lv_at hl 0 rfl) ?_
  refine lv_iconst (v := 0) hx hb dX3_tag_1 (by decide) ?_
  refine va_put (D := D) (ci := 2) (v := .int 0) (ty := .int) (C := RX3) (T := TX3) (N := 19) hx hb hts hinM tyX3 tyX3_ok nmX3 hown hK T.1 T.2.1 T.2.2 0 rfl rfl 0 (by decide) (hts _ (List.mem_cons_of_mem _ k3_f54)) (fun _ h9 => h9) rfl (by decide +kernel) rfl rfl (Nat.le_of_ble_eq_true rfl) dX3_tag_2 (fun H locs hP hD hS => ?_)
  have T := md_setG (k := 3) (v := 0) (kk := 0) rfl ⟨hP, hD, hS⟩
  refine lv_iload_n hx hb dX3_tag_5 rfl (lv_at hl 1 rfl) ?_
  refine lv_if_lt (tgt := 25) hx hb dX3_tag_6 (by decide) (fun c_6 => ?_) (fun c_6 => ?_)
  · skip
    refine lv_iconst (v := (-1)) hx hb dX3_tag_25 (by decide) ?_
    have e9 : sm_tag G S B n x1 x2 = ((-1), upd G 3 0, S) := by unfold sm_tag; simp only [if_pos c_6]
    exact hw_iret C T rfl (by rw [e9]) (by rw [e9]) dX3_tag_26
  · skip
    refine lv_iload_n hx hb dX3_tag_9 rfl (lv_at hl 1 rfl) ?_
    refine lv_sipush (v := 255) hx hb dX3_tag_10 (by decide) ?_
    refine lv_icmp_gt (tgt := 25) hx hb dX3_tag_13 (by decide) (fun c_13 => ?_) (fun c_13 => ?_)
    · skip
      refine lv_iconst (v := (-1)) hx hb dX3_tag_25 (by decide) ?_
      have e9 : sm_tag G S B n x1 x2 = ((-1), upd G 3 0, S) := by unfold sm_tag; simp only [if_neg c_6, if_pos c_13]
      exact hw_iret C T rfl (by rw [e9]) (by rw [e9]) dX3_tag_26
    · skip
      refine lv_iload_n hx hb dX3_tag_16 rfl (lv_at hl 2 rfl) ?_
      refine lv_if_lt (tgt := 25) hx hb dX3_tag_17 (by decide) (fun c_17 => ?_) (fun c_17 => ?_)
      · skip
        refine lv_iconst (v := (-1)) hx hb dX3_tag_25 (by decide) ?_
        have e9 : sm_tag G S B n x1 x2 = ((-1), upd G 3 0, S) := by unfold sm_tag; simp only [if_neg c_6, if_neg c_13, if_pos c_17]
        exact hw_iret C T rfl (by rw [e9]) (by rw [e9]) dX3_tag_26
      · skip
        refine lv_iload_n hx hb dX3_tag_20 rfl (lv_at hl 2 rfl) ?_
        refine lv_iconst (v := 2) hx hb dX3_tag_21 (by decide) ?_
        refine lv_icmp_le (tgt := 27) hx hb dX3_tag_22 (by decide) (fun c_22 => ?_) (fun c_22 => ?_)
        · skip
          refine lv_iconst (v := 0) hx hb dX3_tag_27 (by decide) ?_
          refine lv_istore_n (lv' := [(3, .int 0), (0, .ref o), (1, .int x1), (2, .int x2)]) hx hb dX3_tag_28 rfl hl (by decide) rfl (fun ls hl => ?_)
          refine lv_iconst (v := 0) hx hb dX3_tag_29 (by decide) ?_
          refine lv_istore (lv' := [(4, .int 0), (3, .int 0), (0, .ref o), (1, .int x1), (2, .int x2)]) hx hb dX3_tag_30 hl (by decide) rfl (fun ls hl => ?_)
          rw [show sm_tag G S B n x1 x2 = sm_tag_loop B n x1 x2 n 0 0 (upd G 3 0) S from by unfold sm_tag; simp only [if_neg c_6, if_neg c_13, if_neg c_17, if_pos c_22]]
          exact lp_m_tag C n 0 _ _ _ (by omega) (hg_up (by decide) hG) _ _ _ T (lv_sub hl [2, 3, 4, 1, 0] rfl)
        · skip
          refine lv_iconst (v := (-1)) hx hb dX3_tag_25 (by decide) ?_
          have e9 : sm_tag G S B n x1 x2 = ((-1), upd G 3 0, S) := by unfold sm_tag; simp only [if_neg c_6, if_neg c_13, if_neg c_17, if_neg c_22]
          exact hw_iret C T rfl (by rw [e9]) (by rw [e9]) dX3_tag_26
/-- enter, its picture -/
def sm_enter (G : Nat → Int32) (x1 : Int32) : Int32 × (Nat → Int32) := if x1 = (-1) then (1, upd (upd G 3 0) 5 x1) else (if (sm_isSector (upd G 3 0) x1) = 0 then (0, upd G 3 0) else (1, upd (upd G 3 0) 5 x1))
set_option maxHeartbeats 4000000 in
set_option maxRecDepth 100000 in
theorem c_M_enter {x1 : Int32}  : MI l D (t0 :: md_tys cm) yX3_enter wsX3_enter { frames := 1, cells := 0, slots := 0, locals := 21 } [.ref o, .int x1] (md_W o am cm G S B) ((sm_enter G x1).1) (md_W o am cm (sm_enter G x1).2 S B) := by
  refine MI.start (cc := cX3_enter) (maxL := 2) (by decide) rfl (Nat.le_of_ble_eq_true rfl) (fun p e s m args below meth c A ls C T hl => ?_)
  have hx := C.1.1
  have hb := C.1.2.1
  have hml := C.1.2.2.1
  have hown : s.vm.findClass RX3 = some m.cls := C.1.2.2.2.1
  have hts := C.1.2.2.2.2
  have hK := C.2.2.2.1
  have hinM : ∀ w ∈ wsX30, w ∈ wsX3_enter := fun w h => List.mem_cons_of_mem _ (inX3 w h)
  have hl : lv_has ls 2 [(0, .ref o), (1, .int x1)] := hl
  refine lv_aload_n hx hb dX3_enter_0 rfl (lv_at hl 0 rfl) ?_
  refine lv_iconst (v := 0) hx hb dX3_enter_1 (by decide) ?_
  refine va_put (D := D) (ci := 2) (v := .int 0) (ty := .int) (C := RX3) (T := TX3) (N := 19) hx hb hts hinM tyX3 tyX3_ok nmX3 hown hK T.1 T.2.1 T.2.2 0 rfl rfl 0 (by decide) (hts _ (List.mem_cons_of_mem _ k3_f54)) (fun _ h9 => h9) rfl (by decide +kernel) rfl rfl (Nat.le_of_ble_eq_true rfl) dX3_enter_2 (fun H locs hP hD hS => ?_)
  have T := md_setG (k := 3) (v := 0) (kk := 0) rfl ⟨hP, hD, hS⟩
  refine lv_iload_n hx hb dX3_enter_5 rfl (lv_at hl 1 rfl) ?_
  refine lv_iconst (v := (-1)) hx hb dX3_enter_6 (by decide) ?_
  refine lv_icmp_eq (tgt := 20) hx hb dX3_enter_7 (by decide) (fun c_7 => ?_) (fun c_7 => ?_)
  · skip
    refine lv_aload_n hx hb dX3_enter_20 rfl (lv_at hl 0 rfl) ?_
    refine lv_iload_n hx hb dX3_enter_21 rfl (lv_at hl 1 rfl) ?_
    refine va_put (D := D) (ci := 2) (v := .int x1) (ty := .int) (C := RX3) (T := TX3) (N := 19) hx hb hts hinM tyX3 tyX3_ok nmX3 hown hK T.1 T.2.1 T.2.2 0 rfl rfl 17 (by decide) (hts _ (List.mem_cons_of_mem _ k3_f50)) (fun _ h9 => h9) rfl (by decide +kernel) rfl rfl (Nat.le_of_ble_eq_true rfl) dX3_enter_22 (fun H locs hP hD hS => ?_)
    have T := md_setG (k := 5) (v := x1) (kk := 17) rfl ⟨hP, hD, hS⟩
    refine lv_iconst (v := 1) hx hb dX3_enter_25 (by decide) ?_
    have e9 : sm_enter G x1 = (1, upd (upd G 3 0) 5 x1) := by unfold sm_enter; simp only [if_pos c_7]
    exact hw_iret C T (by decide) (by rw [e9]) (by rw [e9]) dX3_enter_26
  · skip
    refine lv_aload_n hx hb dX3_enter_10 rfl (lv_at hl 0 rfl) ?_
    refine lv_iload_n hx hb dX3_enter_11 rfl (lv_at hl 1 rfl) ?_
    refine hw_Vi (As := [.int x1]) (rest := []) C T (c_M_isSector) (cwV 1 hts (x3_in k3_m63 k3_i_isSector k3_s_isSector k3_ini k3_c_isSector) rfl rfl rfl (by decide +kernel) ⟨Nat.le_of_ble_eq_true rfl, Nat.le_of_ble_eq_true rfl⟩) md_isO md_ad rfl hl.1 rfl (Nat.le_of_ble_eq_true rfl) dX3_enter_12 ⟨Nat.zero_le _, Nat.zero_le _⟩ (fun H locs T => ?_)
    refine lv_if_ne (tgt := 20) hx hb dX3_enter_15 (by decide) (fun c_15 => ?_) (fun c_15 => ?_)
    · skip
      refine lv_aload_n hx hb dX3_enter_20 rfl (lv_at hl 0 rfl) ?_
      refine lv_iload_n hx hb dX3_enter_21 rfl (lv_at hl 1 rfl) ?_
      refine va_put (D := D) (ci := 2) (v := .int x1) (ty := .int) (C := RX3) (T := TX3) (N := 19) hx hb hts hinM tyX3 tyX3_ok nmX3 hown hK T.1 T.2.1 T.2.2 0 rfl rfl 17 (by decide) (hts _ (List.mem_cons_of_mem _ k3_f50)) (fun _ h9 => h9) rfl (by decide +kernel) rfl rfl (Nat.le_of_ble_eq_true rfl) dX3_enter_22 (fun H locs hP hD hS => ?_)
      have T := md_setG (k := 5) (v := x1) (kk := 17) rfl ⟨hP, hD, hS⟩
      refine lv_iconst (v := 1) hx hb dX3_enter_25 (by decide) ?_
      have e9 : sm_enter G x1 = (1, upd (upd G 3 0) 5 x1) := by unfold sm_enter; simp only [if_neg c_7, if_neg c_15]
      exact hw_iret C T (by decide) (by rw [e9]) (by rw [e9]) dX3_enter_26
    · skip
      refine lv_iconst (v := 0) hx hb dX3_enter_18 (by decide) ?_
      have e9 : sm_enter G x1 = (0, upd G 3 0) := by unfold sm_enter; simp only [if_neg c_7, if_pos c_15]
      exact hw_iret C T (by decide) (by rw [e9]) (by rw [e9]) dX3_enter_19
/-- ticks: its loop, by what is left to do -/
def sm_ticks_inner  : Nat → Nat → (Nat → Int32) → (Nat → Nat → Int32) → (Nat → Int32) × (Nat → Nat → Int32)
  | 0, _, G, S => (G, S)
  | k + 1, i, G, S => if (S i 8) < 0 then (sm_ticks_inner k (i + 1) G S) else (if (S i 10) ≤ 0 then (sm_ticks_inner k (i + 1) ((sm_step G S (nI i)).1) ((sm_step G S (nI i)).2)) else (if ((up2 S i 10 ((S i 10) - 1)) i 10) ≤ 0 then (if ((up2 S i 10 ((S i 10) - 1)) i 8) = 0 then (sm_ticks_inner k (i + 1) G (up2 (up2 S i 10 ((S i 10) - 1)) i 9 (-1))) else (sm_ticks_inner k (i + 1) G (up2 (up2 S i 10 ((S i 10) - 1)) i 9 1))) else (sm_ticks_inner k (i + 1) G (up2 (up2 S i 10 ((S i 10) - 1)) i 9 0))))
theorem sm_ticks_inner_0 : ∀ (k i : Nat) (G : Nat → Int32) (S : Nat → Nat → Int32), (sm_ticks_inner k i G S).1 0 = G 0 := by
  intro k
  induction k with
  | zero => intro i G S; rfl
  | succ k ih =>
    intro i G S
    rw [sm_ticks_inner]
    repeat' split
    all_goals first | rw [ih, sm_step_0] | rw [ih]
theorem sm_ticks_inner_n {k i n : Nat} {G : Nat → Int32} {S : Nat → Nat → Int32} (h : hg_n G n) : hg_n (sm_ticks_inner k i G S).1 n := ⟨h.1, by rw [sm_ticks_inner_0]; exact h.2⟩
set_option maxHeartbeats 4000000 in
set_option maxRecDepth 100000 in
theorem lp_m_ticks_inner {p : Program} {e : Env} {s : State} {m : MethodId} {args : Array Value} {below : List Frame} {meth : Method} {c : Code} {A : Nat → Prop} {x1 : Int32}  {x2 : Int32} (C : hw_C p s m args meth c cX3_ticks (some .int) 4 wsX3_ticks yX3_ticks.cls D (t0 :: md_tys cm) A) {Q : State → Prop} :
    ∀ (k i : Nat) (G : Nat → Int32) (S : Nat → Nat → Int32), i + k = n → hg_n G n → ∀ (ls : Array Slot) (H : Heap) (locs : List Loc), hw_T D A s.heap (md_W o am cm G S B) H locs → lv_has ls 4 [(0, .ref o), (1, .int x1), (2, .int x2), (3, .int (nI i))] → (∀ (ls : Array Slot) (H : Heap) (locs : List Loc), hw_T D A s.heap (md_W o am cm (sm_ticks_inner k i G S).1 (sm_ticks_inner k i G S).2 B) H locs → lv_has ls 4 [(0, .ref o), (1, .int x1), (2, .int x2)] → W p l e { frames := 3, cells := 0, slots := 0, locals := 66 } s m args below meth c H locs 0 0 Q (F0 m 129 ls [])) → W p l e { frames := 3, cells := 0, slots := 0, locals := 66 } s m args below meth c H locs 0 0 Q (F0 m 37 ls []) := by
  have hx := C.1.1
  have hb := C.1.2.1
  have hml := C.1.2.2.1
  have hown : s.vm.findClass RX3 = some m.cls := C.1.2.2.2.1
  have hts := C.1.2.2.2.2
  have hK := C.2.2.2.1
  have hinM : ∀ w ∈ wsX30, w ∈ wsX3_ticks := fun w h => List.mem_cons_of_mem _ (inX3 w h)
  intro k
  induction k with
  | zero =>
    intro i G S hik hG ls H locs T hl hout
    have hn32 := hG.1
    refine lv_iload_n hx hb dX3_ticks_37 rfl (lv_at hl 3 rfl) ?_
    refine lv_aload_n hx hb dX3_ticks_38 rfl (lv_at hl 0 rfl) ?_
    refine va_get (D := D) (ci := 2) (v := .int (G 0)) (C := RX3) (T := TX3) (N := 19) hx hb hts hinM hown hK T.1 0 rfl rfl 1 (by decide) (hts _ (List.mem_cons_of_mem _ k3_f57)) (fun _ h9 => h9) rfl dX3_ticks_39 ?_
    refine lv_icmp_ge (tgt := 129) hx hb dX3_ticks_42 (by decide) (fun c_42 => ?_) (fun c_42 => absurd (show G 0 ≤ nI i by rw [hG.2]; exact nI_le (show n ≤ i by omega) (by omega)) c_42)
    rw [show sm_ticks_inner 0 i G S = (G, S) from by rw [sm_ticks_inner]] at hout
    exact hout _ _ _ T (lv_sub hl [0, 1, 2] rfl)
  | succ k ih =>
    intro i G S hik hG ls H locs T hl hout
    have hn32 := hG.1
    refine lv_iload_n hx hb dX3_ticks_37 rfl (lv_at hl 3 rfl) ?_
    refine lv_aload_n hx hb dX3_ticks_38 rfl (lv_at hl 0 rfl) ?_
    refine va_get (D := D) (ci := 2) (v := .int (G 0)) (C := RX3) (T := TX3) (N := 19) hx hb hts hinM hown hK T.1 0 rfl rfl 1 (by decide) (hts _ (List.mem_cons_of_mem _ k3_f57)) (fun _ h9 => h9) rfl dX3_ticks_39 ?_
    refine lv_icmp_ge (tgt := 129) hx hb dX3_ticks_42 (by decide) (fun c_42 => absurd c_42 (show ¬ G 0 ≤ nI i by rw [hG.2]; exact nI_ge (show i < n by omega) (by omega))) (fun c_42 => ?_)
    refine lv_aload_n hx hb dX3_ticks_45 rfl (lv_at hl 0 rfl) ?_
    refine va_get (D := D) (ci := 2) (v := .ref (am 8)) (C := RX3) (T := TX3) (N := 19) hx hb hts hinM hown hK T.1 0 rfl rfl 11 (by decide) (hts _ (List.mem_cons_of_mem _ k3_f35)) (fun _ h9 => h9) rfl dX3_ticks_46 ?_
    refine lv_iload_n hx hb dX3_ticks_49 rfl (lv_at hl 3 rfl) ?_
    have h_50 : vp_in (nI i) 32 := vp_in_nI (show i < 32 by omega) (by decide)
    refine va_iald hx hb hK T.1 9 9 rfl rfl h_50 dX3_ticks_50 ?_
    refine W.eq (g2 := F0 m 51 ls [.int (S i 8)]) (by rw [nI_clamp (show i < 2 ^ 31 by omega)] <;> rfl) ?_
    refine lv_if_lt (tgt := 109) hx hb dX3_ticks_51 (by decide) (fun c_51 => ?_) (fun c_51 => ?_)
    · skip
      refine lv_aload_n hx hb dX3_ticks_109 rfl (lv_at hl 0 rfl) ?_
      refine va_get (D := D) (ci := 2) (v := .ref (am 8)) (C := RX3) (T := TX3) (N := 19) hx hb hts hinM hown hK T.1 0 rfl rfl 11 (by decide) (hts _ (List.mem_cons_of_mem _ k3_f35)) (fun _ h9 => h9) rfl dX3_ticks_110 ?_
      refine lv_iload_n hx hb dX3_ticks_113 rfl (lv_at hl 3 rfl) ?_
      have h_114 : vp_in (nI i) 32 := vp_in_nI (show i < 32 by omega) (by decide)
      refine va_iald hx hb hK T.1 9 9 rfl rfl h_114 dX3_ticks_114 ?_
      refine W.eq (g2 := F0 m 115 ls [.int (S i 8)]) (by rw [nI_clamp (show i < 2 ^ 31 by omega)] <;> rfl) ?_
      refine lv_if_lt (tgt := 123) hx hb dX3_ticks_115 (by decide) (fun _ => ?_) (fun c_115 => absurd c_51 c_115)
      refine lv_iinc (v := nI (i + 1)) (lv' := [(3, .int (nI (i + 1))), (0, .ref o), (1, .int x1), (2, .int x2)]) hx hb dX3_ticks_123 hl (k := 3) rfl (nI_1 i) (by decide) rfl (fun ls hl => ?_)
      refine lv_goto (tgt := 37) hx hb dX3_ticks_126 (by decide) ?_
      rw [show sm_ticks_inner (k + 1) i G S = sm_ticks_inner k (i + 1) G S from by rw [sm_ticks_inner]; simp only [if_pos c_51]] at hout
      exact ih (i + 1) _ _ (by omega) hG _ _ _ T (lv_sub hl [1, 2, 3, 0] rfl) hout
    · skip
      refine lv_aload_n hx hb dX3_ticks_54 rfl (lv_at hl 0 rfl) ?_
      refine va_get (D := D) (ci := 2) (v := .ref (am 10)) (C := RX3) (T := TX3) (N := 19) hx hb hts hinM hown hK T.1 0 rfl rfl 13 (by decide) (hts _ (List.mem_cons_of_mem _ k3_f41)) (fun _ h9 => h9) rfl dX3_ticks_55 ?_
      refine lv_iload_n hx hb dX3_ticks_58 rfl (lv_at hl 3 rfl) ?_
      have h_59 : vp_in (nI i) 32 := vp_in_nI (show i < 32 by omega) (by decide)
      refine va_iald hx hb hK T.1 11 11 rfl rfl h_59 dX3_ticks_59 ?_
      refine W.eq (g2 := F0 m 60 ls [.int (S i 10)]) (by rw [nI_clamp (show i < 2 ^ 31 by omega)] <;> rfl) ?_
      refine lv_if_le (tgt := 109) hx hb dX3_ticks_60 (by decide) (fun c_60 => ?_) (fun c_60 => ?_)
      · skip
        refine lv_aload_n hx hb dX3_ticks_109 rfl (lv_at hl 0 rfl) ?_
        refine va_get (D := D) (ci := 2) (v := .ref (am 8)) (C := RX3) (T := TX3) (N := 19) hx hb hts hinM hown hK T.1 0 rfl rfl 11 (by decide) (hts _ (List.mem_cons_of_mem _ k3_f35)) (fun _ h9 => h9) rfl dX3_ticks_110 ?_
        refine lv_iload_n hx hb dX3_ticks_113 rfl (lv_at hl 3 rfl) ?_
        have h_114 : vp_in (nI i) 32 := vp_in_nI (show i < 32 by omega) (by decide)
        refine va_iald hx hb hK T.1 9 9 rfl rfl h_114 dX3_ticks_114 ?_
        refine W.eq (g2 := F0 m 115 ls [.int (S i 8)]) (by rw [nI_clamp (show i < 2 ^ 31 by omega)] <;> rfl) ?_
        refine lv_if_lt (tgt := 123) hx hb dX3_ticks_115 (by decide) (fun c_115 => absurd c_115 c_51) (fun _ => ?_)
        refine lv_aload_n hx hb dX3_ticks_118 rfl (lv_at hl 0 rfl) ?_
        refine lv_iload_n hx hb dX3_ticks_119 rfl (lv_at hl 3 rfl) ?_
        refine hw_Vv (As := [.int (nI i)]) (rest := []) C T (c_M_step (vp_in_nI (show i < 32 by omega) (by decide))) (cwV 1 hts (x3_in k3_m106 k3_i_step k3_s_step k3_ini k3_c_step) rfl rfl rfl (by decide +kernel) ⟨Nat.le_of_ble_eq_true rfl, Nat.le_of_ble_eq_true rfl⟩) md_isO md_ad rfl hl.1 rfl (Nat.le_of_ble_eq_true rfl) dX3_ticks_120 ⟨Nat.zero_le _, Nat.zero_le _⟩ (fun H locs T => ?_)
        refine lv_iinc (v := nI (i + 1)) (lv' := [(3, .int (nI (i + 1))), (0, .ref o), (1, .int x1), (2, .int x2)]) hx hb dX3_ticks_123 hl (k := 3) rfl (nI_1 i) (by decide) rfl (fun ls hl => ?_)
        refine lv_goto (tgt := 37) hx hb dX3_ticks_126 (by decide) ?_
        rw [show sm_ticks_inner (k + 1) i G S = sm_ticks_inner k (i + 1) ((sm_step G S (nI i)).1) ((sm_step G S (nI i)).2) from by rw [sm_ticks_inner]; simp only [if_neg c_51, if_pos c_60]] at hout
        exact ih (i + 1) _ _ (by omega) (sm_step_n hG) _ _ _ T (lv_sub hl [1, 2, 3, 0] rfl) hout
      · skip
        refine lv_aload_n hx hb dX3_ticks_63 rfl (lv_at hl 0 rfl) ?_
        refine va_get (D := D) (ci := 2) (v := .ref (am 10)) (C := RX3) (T := TX3) (N := 19) hx hb hts hinM hown hK T.1 0 rfl rfl 13 (by decide) (hts _ (List.mem_cons_of_mem _ k3_f41)) (fun _ h9 => h9) rfl dX3_ticks_64 ?_
        refine lv_iload_n hx hb dX3_ticks_67 rfl (lv_at hl 3 rfl) ?_
        refine lv_dup2_11 hx hb dX3_ticks_68 rfl rfl ?_
        have h_69 : vp_in (nI i) 32 := vp_in_nI (show i < 32 by omega) (by decide)
        refine va_iald hx hb hK T.1 11 11 rfl rfl h_69 dX3_ticks_69 ?_
        refine W.eq (g2 := F0 m 70 ls [.int (S i 10), .int (nI i), .ref (am 10)]) (by rw [nI_clamp (show i < 2 ^ 31 by omega)] <;> rfl) ?_
        refine lv_iconst (v := 1) hx hb dX3_ticks_70 (by decide) ?_
        refine lv_isub hx hb dX3_ticks_71 ?_
        have h_72 : vp_in (nI i) 32 := vp_in_nI (show i < 32 by omega) (by decide)
        refine va_iast (x := (S i 10) - 1) hx hb hK T.1 T.2.1 T.2.2 11 11 rfl rfl h_72 dX3_ticks_72 (fun H locs hP hD hS => ?_)
        rw [nI_clamp (show i < 2 ^ 31 by omega)] at hP hD
        have T := md_set10 (i := i) (v := (S i 10) - 1) ⟨hP, hD, hS⟩
        refine lv_aload_n hx hb dX3_ticks_73 rfl (lv_at hl 0 rfl) ?_
        refine va_get (D := D) (ci := 2) (v := .ref (am 9)) (C := RX3) (T := TX3) (N := 19) hx hb hts hinM hown hK T.1 0 rfl rfl 12 (by decide) (hts _ (List.mem_cons_of_mem _ k3_f38)) (fun _ h9 => h9) rfl dX3_ticks_74 ?_
        refine lv_iload_n hx hb dX3_ticks_77 rfl (lv_at hl 3 rfl) ?_
        refine lv_aload_n hx hb dX3_ticks_78 rfl (lv_at hl 0 rfl) ?_
        refine va_get (D := D) (ci := 2) (v := .ref (am 10)) (C := RX3) (T := TX3) (N := 19) hx hb hts hinM hown hK T.1 0 rfl rfl 13 (by decide) (hts _ (List.mem_cons_of_mem _ k3_f41)) (fun _ h9 => h9) rfl dX3_ticks_79 ?_
        refine lv_iload_n hx hb dX3_ticks_82 rfl (lv_at hl 3 rfl) ?_
        have h_83 : vp_in (nI i) 32 := vp_in_nI (show i < 32 by omega) (by decide)
        refine va_iald hx hb hK T.1 11 11 rfl rfl h_83 dX3_ticks_83 ?_
        refine W.eq (g2 := F0 m 84 ls [.int ((up2 S i 10 ((S i 10) - 1)) i 10), .int (nI i), .ref (am 9)]) (by rw [nI_clamp (show i < 2 ^ 31 by omega)] <;> rfl) ?_
        refine lv_if_le (tgt := 91) hx hb dX3_ticks_84 (by decide) (fun c_84 => ?_) (fun c_84 => ?_)
        · skip
          refine lv_aload_n hx hb dX3_ticks_91 rfl (lv_at hl 0 rfl) ?_
          refine va_get (D := D) (ci := 2) (v := .ref (am 8)) (C := RX3) (T := TX3) (N := 19) hx hb hts hinM hown hK T.1 0 rfl rfl 11 (by decide) (hts _ (List.mem_cons_of_mem _ k3_f35)) (fun _ h9 => h9) rfl dX3_ticks_92 ?_
          refine lv_iload_n hx hb dX3_ticks_95 rfl (lv_at hl 3 rfl) ?_
          have h_96 : vp_in (nI i) 32 := vp_in_nI (show i < 32 by omega) (by decide)
          refine va_iald hx hb hK T.1 9 9 rfl rfl h_96 dX3_ticks_96 ?_
          refine W.eq (g2 := F0 m 97 ls [.int ((up2 S i 10 ((S i 10) - 1)) i 8), .int (nI i), .ref (am 9)]) (by rw [nI_clamp (show i < 2 ^ 31 by omega)] <;> rfl) ?_
          refine lv_if_ne (tgt := 104) hx hb dX3_ticks_97 (by decide) (fun c_97 => ?_) (fun c_97 => ?_)
          · skip
            refine lv_iconst (v := 1) hx hb dX3_ticks_104 (by decide) ?_
            have h_105 : vp_in (nI i) 32 := vp_in_nI (show i < 32 by omega) (by decide)
            refine va_iast (x := 1) hx hb hK T.1 T.2.1 T.2.2 10 10 rfl rfl h_105 dX3_ticks_105 (fun H locs hP hD hS => ?_)
            rw [nI_clamp (show i < 2 ^ 31 by omega)] at hP hD
            have T := md_set9 (i := i) (v := 1) ⟨hP, hD, hS⟩
            refine lv_goto (tgt := 123) hx hb dX3_ticks_106 (by decide) ?_
            refine lv_iinc (v := nI (i + 1)) (lv' := [(3, .int (nI (i + 1))), (0, .ref o), (1, .int x1), (2, .int x2)]) hx hb dX3_ticks_123 hl (k := 3) rfl (nI_1 i) (by decide) rfl (fun ls hl => ?_)
            refine lv_goto (tgt := 37) hx hb dX3_ticks_126 (by decide) ?_
            rw [show sm_ticks_inner (k + 1) i G S = sm_ticks_inner k (i + 1) G (up2 (up2 S i 10 ((S i 10) - 1)) i 9 1) from by rw [sm_ticks_inner]; simp only [if_neg c_51, if_neg c_60, if_pos c_84, if_neg c_97]] at hout
            exact ih (i + 1) _ _ (by omega) hG _ _ _ T (lv_sub hl [1, 2, 3, 0] rfl) hout
          · skip
            refine lv_iconst (v := (-1)) hx hb dX3_ticks_100 (by decide) ?_
            refine lv_goto (tgt := 105) hx hb dX3_ticks_101 (by decide) ?_
            have h_105 : vp_in (nI i) 32 := vp_in_nI (show i < 32 by omega) (by decide)
            refine va_iast (x := (-1)) hx hb hK T.1 T.2.1 T.2.2 10 10 rfl rfl h_105 dX3_ticks_105 (fun H locs hP hD hS => ?_)
            rw [nI_clamp (show i < 2 ^ 31 by omega)] at hP hD
            have T := md_set9 (i := i) (v := (-1)) ⟨hP, hD, hS⟩
            refine lv_goto (tgt := 123) hx hb dX3_ticks_106 (by decide) ?_
            refine lv_iinc (v := nI (i + 1)) (lv' := [(3, .int (nI (i + 1))), (0, .ref o), (1, .int x1), (2, .int x2)]) hx hb dX3_ticks_123 hl (k := 3) rfl (nI_1 i) (by decide) rfl (fun ls hl => ?_)
            refine lv_goto (tgt := 37) hx hb dX3_ticks_126 (by decide) ?_
            rw [show sm_ticks_inner (k + 1) i G S = sm_ticks_inner k (i + 1) G (up2 (up2 S i 10 ((S i 10) - 1)) i 9 (-1)) from by rw [sm_ticks_inner]; simp only [if_neg c_51, if_neg c_60, if_pos c_84, if_pos c_97]] at hout
            exact ih (i + 1) _ _ (by omega) hG _ _ _ T (lv_sub hl [1, 2, 3, 0] rfl) hout
        · skip
          refine lv_iconst (v := 0) hx hb dX3_ticks_87 (by decide) ?_
          refine lv_goto (tgt := 105) hx hb dX3_ticks_88 (by decide) ?_
          have h_105 : vp_in (nI i) 32 := vp_in_nI (show i < 32 by omega) (by decide)
          refine va_iast (x := 0) hx hb hK T.1 T.2.1 T.2.2 10 10 rfl rfl h_105 dX3_ticks_105 (fun H locs hP hD hS => ?_)
          rw [nI_clamp (show i < 2 ^ 31 by omega)] at hP hD
          have T := md_set9 (i := i) (v := 0) ⟨hP, hD, hS⟩
          refine lv_goto (tgt := 123) hx hb dX3_ticks_106 (by decide) ?_
          refine lv_iinc (v := nI (i + 1)) (lv' := [(3, .int (nI (i + 1))), (0, .ref o), (1, .int x1), (2, .int x2)]) hx hb dX3_ticks_123 hl (k := 3) rfl (nI_1 i) (by decide) rfl (fun ls hl => ?_)
          refine lv_goto (tgt := 37) hx hb dX3_ticks_126 (by decide) ?_
          rw [show sm_ticks_inner (k + 1) i G S = sm_ticks_inner k (i + 1) G (up2 (up2 S i 10 ((S i 10) - 1)) i 9 0) from by rw [sm_ticks_inner]; simp only [if_neg c_51, if_neg c_60, if_neg c_84]] at hout
          exact ih (i + 1) _ _ (by omega) hG _ _ _ T (lv_sub hl [1, 2, 3, 0] rfl) hout
/-- ticks: its loop, by what is left to do -/
def sm_ticks_loop (n : Nat) : Nat → Nat → (Nat → Int32) → (Nat → Nat → Int32) → Int32 × (Nat → Int32) × (Nat → Nat → Int32)
  | 0, _, G, S => (G 2, G, S)
  | k + 1, i, G, S => sm_ticks_loop n k (i + 1) ((sm_ticks_inner n 0 (upd G 2 ((G 2) + 1)) S).1) ((sm_ticks_inner n 0 (upd G 2 ((G 2) + 1)) S).2)
set_option maxHeartbeats 4000000 in
set_option maxRecDepth 100000 in
theorem lp_m_ticks {p : Program} {e : Env} {s : State} {m : MethodId} {args : Array Value} {below : List Frame} {meth : Method} {c : Code} {A : Nat → Prop}   {N : Nat} (hN1 : N ≤ 1000) (C : hw_C p s m args meth c cX3_ticks (some .int) 4 wsX3_ticks yX3_ticks.cls D (t0 :: md_tys cm) A) :
    ∀ (k i : Nat) (G : Nat → Int32) (S : Nat → Nat → Int32), i + k = N → hg_n G n → ∀ (ls : Array Slot) (H : Heap) (locs : List Loc), hw_T D A s.heap (md_W o am cm G S B) H locs → lv_has ls 4 [(0, .ref o), (1, .int (nI N)), (2, .int (nI i))] → W p l e { frames := 3, cells := 0, slots := 0, locals := 66 } s m args below meth c H locs 0 0 (MQ below (va_Qi (fun (r' : Int32) (_ : Unit) => r' = (sm_ticks_loop n k i G S).1) (fun _ t => va_P D vwCl (md_W o am cm (sm_ticks_loop n k i G S).2.1 (sm_ticks_loop n k i G S).2.2 B) t.heap) A) args s 0 0 A) (F0 m 20 ls []) := by
  have hx := C.1.1
  have hb := C.1.2.1
  have hml := C.1.2.2.1
  have hown : s.vm.findClass RX3 = some m.cls := C.1.2.2.2.1
  have hts := C.1.2.2.2.2
  have hK := C.2.2.2.1
  have hinM : ∀ w ∈ wsX30, w ∈ wsX3_ticks := fun w h => List.mem_cons_of_mem _ (inX3 w h)
  intro k
  induction k with
  | zero =>
    intro i G S hik hG ls H locs T hl
    have hn32 := hG.1
    refine lv_iload_n hx hb dX3_ticks_20 rfl (lv_at hl 2 rfl) ?_
    refine lv_iload_n hx hb dX3_ticks_21 rfl (lv_at hl 1 rfl) ?_
    refine lv_icmp_ge (tgt := 135) hx hb dX3_ticks_22 (by decide) (fun c_22 => ?_) (fun c_22 => absurd (show nI N ≤ nI i from nI_le (show N ≤ i by omega) (by omega)) c_22)
    refine lv_aload_n hx hb dX3_ticks_135 rfl (lv_at hl 0 rfl) ?_
    refine va_get (D := D) (ci := 2) (v := .int (G 2)) (C := RX3) (T := TX3) (N := 19) hx hb hts hinM hown hK T.1 0 rfl rfl 16 (by decide) (hts _ (List.mem_cons_of_mem _ k3_f70)) (fun _ h9 => h9) rfl dX3_ticks_136 ?_
    have e9 : sm_ticks_loop n 0 i G S = (G 2, G, S) := by rw [sm_ticks_loop]
    exact hw_iret C T rfl (by rw [e9]) (by rw [e9]) dX3_ticks_139
  | succ k ih =>
    intro i G S hik hG ls H locs T hl
    have hn32 := hG.1
    refine lv_iload_n hx hb dX3_ticks_20 rfl (lv_at hl 2 rfl) ?_
    refine lv_iload_n hx hb dX3_ticks_21 rfl (lv_at hl 1 rfl) ?_
    refine lv_icmp_ge (tgt := 135) hx hb dX3_ticks_22 (by decide) (fun c_22 => absurd c_22 (show ¬ nI N ≤ nI i from nI_ge (show i < N by omega) (by omega))) (fun c_22 => ?_)
    refine lv_aload_n hx hb dX3_ticks_25 rfl (lv_at hl 0 rfl) ?_
    refine lv_dup hx hb dX3_ticks_26 rfl ?_
    refine va_get (D := D) (ci := 2) (v := .int (G 2)) (C := RX3) (T := TX3) (N := 19) hx hb hts hinM hown hK T.1 0 rfl rfl 16 (by decide) (hts _ (List.mem_cons_of_mem _ k3_f70)) (fun _ h9 => h9) rfl dX3_ticks_27 ?_
    refine lv_iconst (v := 1) hx hb dX3_ticks_30 (by decide) ?_
    refine lv_iadd hx hb dX3_ticks_31 ?_
    refine va_put (D := D) (ci := 2) (v := .int ((G 2) + 1)) (ty := .int) (C := RX3) (T := TX3) (N := 19) hx hb hts hinM tyX3 tyX3_ok nmX3 hown hK T.1 T.2.1 T.2.2 0 rfl rfl 16 (by decide) (hts _ (List.mem_cons_of_mem _ k3_f70)) (fun _ h9 => h9) rfl (by decide +kernel) rfl rfl (Nat.le_of_ble_eq_true rfl) dX3_ticks_32 (fun H locs hP hD hS => ?_)
    have T := md_setG (k := 2) (v := (G 2) + 1) (kk := 16) rfl ⟨hP, hD, hS⟩
    refine lv_iconst (v := 0) hx hb dX3_ticks_35 (by decide) ?_
    refine lv_istore_n (lv' := [(3, .int 0), (0, .ref o), (1, .int (nI N)), (2, .int (nI i))]) hx hb dX3_ticks_36 rfl hl (by decide) rfl (fun ls hl => ?_)
    refine lp_m_ticks_inner C n 0 _ _ (by omega) (hg_up (by decide) hG) _ _ _ T (lv_sub hl [1, 2, 3, 0] rfl) (fun ls H locs T hl => ?_)
    refine lv_iinc (v := nI (i + 1)) (lv' := [(2, .int (nI (i + 1))), (0, .ref o), (1, .int (nI N))]) hx hb dX3_ticks_129 hl (k := 2) rfl (nI_1 i) (by decide) rfl (fun ls hl => ?_)
    refine lv_goto (tgt := 20) hx hb dX3_ticks_132 (by decide) ?_
    rw [show sm_ticks_loop n (k + 1) i G S = sm_ticks_loop n k (i + 1) ((sm_ticks_inner n 0 (upd G 2 ((G 2) + 1)) S).1) ((sm_ticks_inner n 0 (upd G 2 ((G 2) + 1)) S).2) from by rw [sm_ticks_loop]]
    exact ih (i + 1) _ _ (by omega) (sm_ticks_inner_n (hg_up (by decide) hG)) _ _ _ T (lv_sub hl [1, 2, 0] rfl)
/-- ticks, its picture -/
def sm_ticks (G : Nat → Int32) (S : Nat → Nat → Int32) (n : Nat) (x1 : Int32) : Int32 × (Nat → Int32) × (Nat → Nat → Int32) := if x1 < 0 then ((-1), upd G 3 0, S) else (if x1 ≤ 1000 then (sm_ticks_loop n x1.toNatClampNeg 0 (upd G 3 0) S) else ((-1), upd G 3 0, S))
set_option maxHeartbeats 4000000 in
set_option maxRecDepth 100000 in
theorem c_M_ticks {x1 : Int32} (hG : hg_n G n) : MI l D (t0 :: md_tys cm) yX3_ticks wsX3_ticks { frames := 3, cells := 0, slots := 0, locals := 66 } [.ref o, .int x1] (md_W o am cm G S B) ((sm_ticks G S n x1).1) (md_W o am cm (sm_ticks G S n x1).2.1 (sm_ticks G S n x1).2.2 B) := by
  refine MI.start (cc := cX3_ticks) (maxL := 4) (by decide) rfl (Nat.le_of_ble_eq_true rfl) (fun p e s m args below meth c A ls C T hl => ?_)
  have hx := C.1.1
  have hb := C.1.2.1
  have hml := C.1.2.2.1
  have hown : s.vm.findClass RX3 = some m.cls := C.1.2.2.2.1
  have hts := C.1.2.2.2.2
  have hK := C.2.2.2.1
  have hinM : ∀ w ∈ wsX30, w ∈ wsX3_ticks := fun w h => List.mem_cons_of_mem _ (inX3 w h)
  have hn32 := hG.1
  have hl : lv_has ls 4 [(0, .ref o), (1, .int x1)] := hl
  refine lv_aload_n hx hb dX3_ticks_0 rfl (lv_at hl 0 rfl) ?_
  refine lv_iconst (v := 0) hx hb dX3_ticks_1 (by decide) ?_
  refine va_put (D := D) (ci := 2) (v := .int 0) (ty := .int) (C := RX3) (T := TX3) (N := 19) hx hb hts hinM tyX3 tyX3_ok nmX3 hown hK T.1 T.2.1 T.2.2 0 rfl rfl 0 (by decide) (hts _ (List.mem_cons_of_mem _ k3_f54)) (fun _ h9 => h9) rfl (by decide +kernel) rfl rfl (Nat.le_of_ble_eq_true rfl) dX3_ticks_2 (fun H locs hP hD hS => ?_)
  have T := md_setG (k := 3) (v := 0) (kk := 0) rfl ⟨hP, hD, hS⟩
  refine lv_iload_n hx hb dX3_ticks_5 rfl (lv_at hl 1 rfl) ?_
  refine lv_if_lt (tgt := 16) hx hb dX3_ticks_6 (by decide) (fun c_6 => ?_) (fun c_6 => ?_)
  · skip
    refine lv_iconst (v := (-1)) hx hb dX3_ticks_16 (by decide) ?_
    have e9 : sm_ticks G S n x1 = ((-1), upd G 3 0, S) := by unfold sm_ticks; simp only [if_pos c_6]
    exact hw_iret C T rfl (by rw [e9]) (by rw [e9]) dX3_ticks_17
  · skip
    refine lv_iload_n hx hb dX3_ticks_9 rfl (lv_at hl 1 rfl) ?_
    refine lv_sipush (v := 1000) hx hb dX3_ticks_10 (by decide) ?_
    refine lv_icmp_le (tgt := 18) hx hb dX3_ticks_13 (by decide) (fun c_13 => ?_) (fun c_13 => ?_)
    · skip
      refine lv_iconst (v := 0) hx hb dX3_ticks_18 (by decide) ?_
      refine lv_istore_n (lv' := [(2, .int 0), (0, .ref o), (1, .int x1)]) hx hb dX3_ticks_19 rfl hl (by decide) rfl (fun ls hl => ?_)
      obtain ⟨N, hN1, rfl⟩ := nI_of2 (M := 1000) (n := 1000) (by decide) c_6 c_13
      rw [show sm_ticks G S n (nI N) = sm_ticks_loop n N 0 (upd G 3 0) S from by unfold sm_ticks; simp only [if_neg c_6, if_pos c_13, nI_clamp (show N < 2 ^ 31 by omega)]]
      exact lp_m_ticks hN1 C N 0 _ _ (by omega) (hg_up (by decide) hG) _ _ _ T (lv_sub hl [1, 2, 0] rfl)
    · skip
      refine lv_iconst (v := (-1)) hx hb dX3_ticks_16 (by decide) ?_
      have e9 : sm_ticks G S n x1 = ((-1), upd G 3 0, S) := by unfold sm_ticks; simp only [if_neg c_6, if_neg c_13]
      exact hw_iret C T rfl (by rw [e9]) (by rw [e9]) dX3_ticks_17
/-- of, its picture -/
def sm_of (G : Nat → Int32) (S : Nat → Nat → Int32) (B : Nat → Int32) (n : Nat) (x1 : Int32) (x2 : Int32) : Int32 × (Nat → Int32) := if (sm_isSector (upd G 3 0) x1) = 0 then (100000, upd G 3 0) else (if x2 = 0 then (S x1.toNatClampNeg 6, upd G 3 0) else (if x2 = 1 then (S x1.toNatClampNeg 7, upd G 3 0) else (if x2 = 2 then (sm_lightOf (upd G 3 0) S n x1, upd G 3 0) else (if x2 = 3 then (S x1.toNatClampNeg 8, upd G 3 0) else (if x2 = 4 then (S x1.toNatClampNeg 9, upd G 3 0) else (if x2 = 5 then (S x1.toNatClampNeg 10, upd G 3 0) else (if x2 = 6 then (sm_lowFloor S B n x1, upd G 3 0) else (if x2 = 7 then (sm_highFloor S B n x1, upd G 3 0) else (if x2 = 8 then (sm_lowCeiling S B n x1, upd G 3 0) else (if x2 = 9 then (S x1.toNatClampNeg 11, upd G 3 0) else (100000, upd G 3 0)))))))))))
set_option maxHeartbeats 4000000 in
set_option maxRecDepth 100000 in
theorem c_M_of {x1 : Int32} {x2 : Int32} (hG : hg_n G n) : MI l D (t0 :: md_tys cm) yX3_of wsX3_of { frames := 2, cells := 0, slots := 0, locals := 45 } [.ref o, .int x1, .int x2] (md_W o am cm G S B) ((sm_of G S B n x1 x2).1) (md_W o am cm (sm_of G S B n x1 x2).2 S B) := by
  refine MI.start (cc := cX3_of) (maxL := 3) (by decide) rfl (Nat.le_of_ble_eq_true rfl) (fun p e s m args below meth c A ls C T hl => ?_)
  have hx := C.1.1
  have hb := C.1.2.1
  have hml := C.1.2.2.1
  have hown : s.vm.findClass RX3 = some m.cls := C.1.2.2.2.1
  have hts := C.1.2.2.2.2
  have hK := C.2.2.2.1
  have hinM : ∀ w ∈ wsX30, w ∈ wsX3_of := fun w h => List.mem_cons_of_mem _ (inX3 w h)
  have hn32 := hG.1
  have hl : lv_has ls 3 [(0, .ref o), (1, .int x1), (2, .int x2)] := hl
  refine lv_aload_n hx hb dX3_of_0 rfl (lv_at hl 0 rfl) ?_
  refine lv_iconst (v := 0) hx hb dX3_of_1 (by decide) ?_
  refine va_put (D := D) (ci := 2) (v := .int 0) (ty := .int) (C := RX3) (T := TX3) (N := 19) hx hb hts hinM tyX3 tyX3_ok nmX3 hown hK T.1 T.2.1 T.2.2 0 rfl rfl 0 (by decide) (hts _ (List.mem_cons_of_mem _ k3_f54)) (fun _ h9 => h9) rfl (by decide +kernel) rfl rfl (Nat.le_of_ble_eq_true rfl) dX3_of_2 (fun H locs hP hD hS => ?_)
  have T := md_setG (k := 3) (v := 0) (kk := 0) rfl ⟨hP, hD, hS⟩
  refine lv_aload_n hx hb dX3_of_5 rfl (lv_at hl 0 rfl) ?_
  refine lv_iload_n hx hb dX3_of_6 rfl (lv_at hl 1 rfl) ?_
  refine hw_Vi (As := [.int x1]) (rest := []) C T (c_M_isSector) (cwV 1 hts (x3_in k3_m63 k3_i_isSector k3_s_isSector k3_ini k3_c_isSector) rfl rfl rfl (by decide +kernel) ⟨Nat.le_of_ble_eq_true rfl, Nat.le_of_ble_eq_true rfl⟩) md_isO md_ad rfl hl.1 rfl (Nat.le_of_ble_eq_true rfl) dX3_of_7 ⟨Nat.zero_le _, Nat.zero_le _⟩ (fun H locs T => ?_)
  refine lv_if_ne (tgt := 16) hx hb dX3_of_10 (by decide) (fun c_10 => ?_) (fun c_10 => ?_)
  · skip
    refine lv_iload_n hx hb dX3_of_16 rfl (lv_at hl 2 rfl) ?_
    by_cases c_17_0 : x2 = 0
    · skip
      refine lv_tableIn (off := 55) (tgt := 72) hx hb dX3_of_17 (by rw [c_17_0]; decide) (by rw [c_17_0]; decide) (by rw [c_17_0]; decide +kernel) (by decide) ?_
      refine lv_aload_n hx hb dX3_of_72 rfl (lv_at hl 0 rfl) ?_
      refine va_get (D := D) (ci := 2) (v := .ref (am 6)) (C := RX3) (T := TX3) (N := 19) hx hb hts hinM hown hK T.1 0 rfl rfl 9 (by decide) (hts _ (List.mem_cons_of_mem _ k3_f29)) (fun _ h9 => h9) rfl dX3_of_73 ?_
      refine lv_iload_n hx hb dX3_of_76 rfl (lv_at hl 1 rfl) ?_
      have h_77 : vp_in x1 32 := (mx_in (hg_up (by decide) hG) c_10)
      refine va_iald hx hb hK T.1 7 7 rfl rfl h_77 dX3_of_77 ?_
      refine W.eq (g2 := F0 m 78 ls [.int (S x1.toNatClampNeg 6)]) rfl ?_
      have e9 : sm_of G S B n x1 x2 = (S x1.toNatClampNeg 6, upd G 3 0) := by unfold sm_of; simp only [if_neg c_10, if_pos c_17_0]
      exact hw_iret C T rfl (by rw [e9]) (by rw [e9]) dX3_of_78
    · skip
      by_cases c_17_1 : x2 = 1
      · skip
        refine lv_tableIn (off := 62) (tgt := 79) hx hb dX3_of_17 (by rw [c_17_1]; decide) (by rw [c_17_1]; decide) (by rw [c_17_1]; decide +kernel) (by decide) ?_
        refine lv_aload_n hx hb dX3_of_79 rfl (lv_at hl 0 rfl) ?_
        refine va_get (D := D) (ci := 2) (v := .ref (am 7)) (C := RX3) (T := TX3) (N := 19) hx hb hts hinM hown hK T.1 0 rfl rfl 10 (by decide) (hts _ (List.mem_cons_of_mem _ k3_f32)) (fun _ h9 => h9) rfl dX3_of_80 ?_
        refine lv_iload_n hx hb dX3_of_83 rfl (lv_at hl 1 rfl) ?_
        have h_84 : vp_in x1 32 := (mx_in (hg_up (by decide) hG) c_10)
        refine va_iald hx hb hK T.1 8 8 rfl rfl h_84 dX3_of_84 ?_
        refine W.eq (g2 := F0 m 85 ls [.int (S x1.toNatClampNeg 7)]) rfl ?_
        have e9 : sm_of G S B n x1 x2 = (S x1.toNatClampNeg 7, upd G 3 0) := by unfold sm_of; simp only [if_neg c_10, if_neg c_17_0, if_pos c_17_1]
        exact hw_iret C T rfl (by rw [e9]) (by rw [e9]) dX3_of_85
      · skip
        by_cases c_17_2 : x2 = 2
        · skip
          refine lv_tableIn (off := 69) (tgt := 86) hx hb dX3_of_17 (by rw [c_17_2]; decide) (by rw [c_17_2]; decide) (by rw [c_17_2]; decide +kernel) (by decide) ?_
          refine lv_aload_n hx hb dX3_of_86 rfl (lv_at hl 0 rfl) ?_
          refine lv_iload_n hx hb dX3_of_87 rfl (lv_at hl 1 rfl) ?_
          refine hw_Vi (As := [.int x1]) (rest := []) C T (c_M_lightOf (mx_in (hg_up (by decide) hG) c_10) (hg_up (by decide) hG)) (cwV 1 hts (x3_in k3_m113 k3_i_lightOf k3_s_lightOf k3_ini k3_c_lightOf) rfl rfl rfl (by decide +kernel) ⟨Nat.le_of_ble_eq_true rfl, Nat.le_of_ble_eq_true rfl⟩) md_isO md_ad rfl hl.1 rfl (Nat.le_of_ble_eq_true rfl) dX3_of_88 ⟨Nat.zero_le _, Nat.zero_le _⟩ (fun H locs T => ?_)
          have e9 : sm_of G S B n x1 x2 = (sm_lightOf (upd G 3 0) S n x1, upd G 3 0) := by unfold sm_of; simp only [if_neg c_10, if_neg c_17_0, if_neg c_17_1, if_pos c_17_2]
          exact hw_iret C T rfl (by rw [e9]) (by rw [e9]) dX3_of_91
        · skip
          by_cases c_17_3 : x2 = 3
          · skip
            refine lv_tableIn (off := 75) (tgt := 92) hx hb dX3_of_17 (by rw [c_17_3]; decide) (by rw [c_17_3]; decide) (by rw [c_17_3]; decide +kernel) (by decide) ?_
            refine lv_aload_n hx hb dX3_of_92 rfl (lv_at hl 0 rfl) ?_
            refine va_get (D := D) (ci := 2) (v := .ref (am 8)) (C := RX3) (T := TX3) (N := 19) hx hb hts hinM hown hK T.1 0 rfl rfl 11 (by decide) (hts _ (List.mem_cons_of_mem _ k3_f35)) (fun _ h9 => h9) rfl dX3_of_93 ?_
            refine lv_iload_n hx hb dX3_of_96 rfl (lv_at hl 1 rfl) ?_
            have h_97 : vp_in x1 32 := (mx_in (hg_up (by decide) hG) c_10)
            refine va_iald hx hb hK T.1 9 9 rfl rfl h_97 dX3_of_97 ?_
            refine W.eq (g2 := F0 m 98 ls [.int (S x1.toNatClampNeg 8)]) rfl ?_
            have e9 : sm_of G S B n x1 x2 = (S x1.toNatClampNeg 8, upd G 3 0) := by unfold sm_of; simp only [if_neg c_10, if_neg c_17_0, if_neg c_17_1, if_neg c_17_2, if_pos c_17_3]
            exact hw_iret C T rfl (by rw [e9]) (by rw [e9]) dX3_of_98
          · skip
            by_cases c_17_4 : x2 = 4
            · skip
              refine lv_tableIn (off := 82) (tgt := 99) hx hb dX3_of_17 (by rw [c_17_4]; decide) (by rw [c_17_4]; decide) (by rw [c_17_4]; decide +kernel) (by decide) ?_
              refine lv_aload_n hx hb dX3_of_99 rfl (lv_at hl 0 rfl) ?_
              refine va_get (D := D) (ci := 2) (v := .ref (am 9)) (C := RX3) (T := TX3) (N := 19) hx hb hts hinM hown hK T.1 0 rfl rfl 12 (by decide) (hts _ (List.mem_cons_of_mem _ k3_f38)) (fun _ h9 => h9) rfl dX3_of_100 ?_
              refine lv_iload_n hx hb dX3_of_103 rfl (lv_at hl 1 rfl) ?_
              have h_104 : vp_in x1 32 := (mx_in (hg_up (by decide) hG) c_10)
              refine va_iald hx hb hK T.1 10 10 rfl rfl h_104 dX3_of_104 ?_
              refine W.eq (g2 := F0 m 105 ls [.int (S x1.toNatClampNeg 9)]) rfl ?_
              have e9 : sm_of G S B n x1 x2 = (S x1.toNatClampNeg 9, upd G 3 0) := by unfold sm_of; simp only [if_neg c_10, if_neg c_17_0, if_neg c_17_1, if_neg c_17_2, if_neg c_17_3, if_pos c_17_4]
              exact hw_iret C T rfl (by rw [e9]) (by rw [e9]) dX3_of_105
            · skip
              by_cases c_17_5 : x2 = 5
              · skip
                refine lv_tableIn (off := 89) (tgt := 106) hx hb dX3_of_17 (by rw [c_17_5]; decide) (by rw [c_17_5]; decide) (by rw [c_17_5]; decide +kernel) (by decide) ?_
                refine lv_aload_n hx hb dX3_of_106 rfl (lv_at hl 0 rfl) ?_
                refine va_get (D := D) (ci := 2) (v := .ref (am 10)) (C := RX3) (T := TX3) (N := 19) hx hb hts hinM hown hK T.1 0 rfl rfl 13 (by decide) (hts _ (List.mem_cons_of_mem _ k3_f41)) (fun _ h9 => h9) rfl dX3_of_107 ?_
                refine lv_iload_n hx hb dX3_of_110 rfl (lv_at hl 1 rfl) ?_
                have h_111 : vp_in x1 32 := (mx_in (hg_up (by decide) hG) c_10)
                refine va_iald hx hb hK T.1 11 11 rfl rfl h_111 dX3_of_111 ?_
                refine W.eq (g2 := F0 m 112 ls [.int (S x1.toNatClampNeg 10)]) rfl ?_
                have e9 : sm_of G S B n x1 x2 = (S x1.toNatClampNeg 10, upd G 3 0) := by unfold sm_of; simp only [if_neg c_10, if_neg c_17_0, if_neg c_17_1, if_neg c_17_2, if_neg c_17_3, if_neg c_17_4, if_pos c_17_5]
                exact hw_iret C T rfl (by rw [e9]) (by rw [e9]) dX3_of_112
              · skip
                by_cases c_17_6 : x2 = 6
                · skip
                  refine lv_tableIn (off := 96) (tgt := 113) hx hb dX3_of_17 (by rw [c_17_6]; decide) (by rw [c_17_6]; decide) (by rw [c_17_6]; decide +kernel) (by decide) ?_
                  refine lv_aload_n hx hb dX3_of_113 rfl (lv_at hl 0 rfl) ?_
                  refine lv_iload_n hx hb dX3_of_114 rfl (lv_at hl 1 rfl) ?_
                  refine hw_Vi (As := [.int x1]) (rest := []) C T (c_M_lowFloor (mx_in (hg_up (by decide) hG) c_10) (hg_up (by decide) hG)) (cwV 1 hts (x3_in k3_m84 k3_i_lowFloor k3_s_lowFloor k3_ini k3_c_lowFloor) rfl rfl rfl (by decide +kernel) ⟨Nat.le_of_ble_eq_true rfl, Nat.le_of_ble_eq_true rfl⟩) md_isO md_ad rfl hl.1 rfl (Nat.le_of_ble_eq_true rfl) dX3_of_115 ⟨Nat.zero_le _, Nat.zero_le _⟩ (fun H locs T => ?_)
                  have e9 : sm_of G S B n x1 x2 = (sm_lowFloor S B n x1, upd G 3 0) := by unfold sm_of; simp only [if_neg c_10, if_neg c_17_0, if_neg c_17_1, if_neg c_17_2, if_neg c_17_3, if_neg c_17_4, if_neg c_17_5, if_pos c_17_6]
                  exact hw_iret C T rfl (by rw [e9]) (by rw [e9]) dX3_of_118
                · skip
                  by_cases c_17_7 : x2 = 7
                  · skip
                    refine lv_tableIn (off := 102) (tgt := 119) hx hb dX3_of_17 (by rw [c_17_7]; decide) (by rw [c_17_7]; decide) (by rw [c_17_7]; decide +kernel) (by decide) ?_
                    refine lv_aload_n hx hb dX3_of_119 rfl (lv_at hl 0 rfl) ?_
                    refine lv_iload_n hx hb dX3_of_120 rfl (lv_at hl 1 rfl) ?_
                    refine hw_Vi (As := [.int x1]) (rest := []) C T (c_M_highFloor (mx_in (hg_up (by decide) hG) c_10) (hg_up (by decide) hG)) (cwV 1 hts (x3_in k3_m81 k3_i_highFloor k3_s_highFloor k3_ini k3_c_highFloor) rfl rfl rfl (by decide +kernel) ⟨Nat.le_of_ble_eq_true rfl, Nat.le_of_ble_eq_true rfl⟩) md_isO md_ad rfl hl.1 rfl (Nat.le_of_ble_eq_true rfl) dX3_of_121 ⟨Nat.zero_le _, Nat.zero_le _⟩ (fun H locs T => ?_)
                    have e9 : sm_of G S B n x1 x2 = (sm_highFloor S B n x1, upd G 3 0) := by unfold sm_of; simp only [if_neg c_10, if_neg c_17_0, if_neg c_17_1, if_neg c_17_2, if_neg c_17_3, if_neg c_17_4, if_neg c_17_5, if_neg c_17_6, if_pos c_17_7]
                    exact hw_iret C T rfl (by rw [e9]) (by rw [e9]) dX3_of_124
                  · skip
                    by_cases c_17_8 : x2 = 8
                    · skip
                      refine lv_tableIn (off := 108) (tgt := 125) hx hb dX3_of_17 (by rw [c_17_8]; decide) (by rw [c_17_8]; decide) (by rw [c_17_8]; decide +kernel) (by decide) ?_
                      refine lv_aload_n hx hb dX3_of_125 rfl (lv_at hl 0 rfl) ?_
                      refine lv_iload_n hx hb dX3_of_126 rfl (lv_at hl 1 rfl) ?_
                      refine hw_Vi (As := [.int x1]) (rest := []) C T (c_M_lowCeiling (mx_in (hg_up (by decide) hG) c_10) (hg_up (by decide) hG)) (cwV 1 hts (x3_in k3_m77 k3_i_lowCeiling k3_s_lowCeiling k3_ini k3_c_lowCeiling) rfl rfl rfl (by decide +kernel) ⟨Nat.le_of_ble_eq_true rfl, Nat.le_of_ble_eq_true rfl⟩) md_isO md_ad rfl hl.1 rfl (Nat.le_of_ble_eq_true rfl) dX3_of_127 ⟨Nat.zero_le _, Nat.zero_le _⟩ (fun H locs T => ?_)
                      have e9 : sm_of G S B n x1 x2 = (sm_lowCeiling S B n x1, upd G 3 0) := by unfold sm_of; simp only [if_neg c_10, if_neg c_17_0, if_neg c_17_1, if_neg c_17_2, if_neg c_17_3, if_neg c_17_4, if_neg c_17_5, if_neg c_17_6, if_neg c_17_7, if_pos c_17_8]
                      exact hw_iret C T rfl (by rw [e9]) (by rw [e9]) dX3_of_130
                    · skip
                      by_cases c_17_9 : x2 = 9
                      · skip
                        refine lv_tableIn (off := 114) (tgt := 131) hx hb dX3_of_17 (by rw [c_17_9]; decide) (by rw [c_17_9]; decide) (by rw [c_17_9]; decide +kernel) (by decide) ?_
                        refine lv_aload_n hx hb dX3_of_131 rfl (lv_at hl 0 rfl) ?_
                        refine va_get (D := D) (ci := 2) (v := .ref (am 11)) (C := RX3) (T := TX3) (N := 19) hx hb hts hinM hown hK T.1 0 rfl rfl 14 (by decide) (hts _ (List.mem_cons_of_mem _ k3_f44)) (fun _ h9 => h9) rfl dX3_of_132 ?_
                        refine lv_iload_n hx hb dX3_of_135 rfl (lv_at hl 1 rfl) ?_
                        have h_136 : vp_in x1 32 := (mx_in (hg_up (by decide) hG) c_10)
                        refine va_iald hx hb hK T.1 12 12 rfl rfl h_136 dX3_of_136 ?_
                        refine W.eq (g2 := F0 m 137 ls [.int (S x1.toNatClampNeg 11)]) rfl ?_
                        have e9 : sm_of G S B n x1 x2 = (S x1.toNatClampNeg 11, upd G 3 0) := by unfold sm_of; simp only [if_neg c_10, if_neg c_17_0, if_neg c_17_1, if_neg c_17_2, if_neg c_17_3, if_neg c_17_4, if_neg c_17_5, if_neg c_17_6, if_neg c_17_7, if_neg c_17_8, if_pos c_17_9]
                        exact hw_iret C T rfl (by rw [e9]) (by rw [e9]) dX3_of_137
                      · skip
                        refine lv_tableOut (tgt := 138) hx hb dX3_of_17 (by have z0 := lv_neT (a := 0) c_17_0 (by decide); have z1 := lv_neT (a := 1) c_17_1 (by decide); have z2 := lv_neT (a := 2) c_17_2 (by decide); have z3 := lv_neT (a := 3) c_17_3 (by decide); have z4 := lv_neT (a := 4) c_17_4 (by decide); have z5 := lv_neT (a := 5) c_17_5 (by decide); have z6 := lv_neT (a := 6) c_17_6 (by decide); have z7 := lv_neT (a := 7) c_17_7 (by decide); have z8 := lv_neT (a := 8) c_17_8 (by decide); have z9 := lv_neT (a := 9) c_17_9 (by decide); omega) (by decide) ?_
                        refine lv_ldc (v := 100000) hx hb hown (hts (.constant RX3 76 100000) (List.mem_cons_of_mem _ k3_k76)) dX3_of_138 ?_
                        have e9 : sm_of G S B n x1 x2 = (100000, upd G 3 0) := by unfold sm_of; simp only [if_neg c_10, if_neg c_17_0, if_neg c_17_1, if_neg c_17_2, if_neg c_17_3, if_neg c_17_4, if_neg c_17_5, if_neg c_17_6, if_neg c_17_7, if_neg c_17_8, if_neg c_17_9]
                        exact hw_iret C T rfl (by rw [e9]) (by rw [e9]) dX3_of_140
  · skip
    refine lv_ldc (v := 100000) hx hb hown (hts (.constant RX3 76 100000) (List.mem_cons_of_mem _ k3_k76)) dX3_of_13 ?_
    have e9 : sm_of G S B n x1 x2 = (100000, upd G 3 0) := by unfold sm_of; simp only [if_pos c_10]
    exact hw_iret C T rfl (by rw [e9]) (by rw [e9]) dX3_of_15
/-- are, its picture -/
def sm_are (G : Nat → Int32) (B : Nat → Int32) (x1 : Int32) (x2 : Int32) : Int32 × (Nat → Int32) := if (sm_isSector (upd G 3 0) x1) = 0 then (0, upd G 3 0) else (if (sm_isSector (upd G 3 0) x2) = 0 then (0, upd G 3 0) else (if (B (((32 * x1) + x2).toNatClampNeg)) = 0 then (0, upd G 3 0) else (1, upd G 3 0)))
theorem mx_are {G : Nat → Int32} {B : Nat → Int32} {n : Nat} {x1 x2 : Int32} (h : hg_n G n) (c : ¬ (sm_are G B x1 x2).1 = 0) : vp_in x1 32 ∧ vp_in x2 32 := by
  unfold sm_are at c
  by_cases h1 : sm_isSector (upd G 3 0) x1 = 0
  · simp [h1] at c
  · by_cases h2 : sm_isSector (upd G 3 0) x2 = 0
    · simp [h2] at c
    · exact ⟨mx_in (hg_up (by decide) h) h1, mx_in (hg_up (by decide) h) h2⟩
set_option maxHeartbeats 4000000 in
set_option maxRecDepth 100000 in
theorem c_M_are {x1 : Int32} {x2 : Int32} (hG : hg_n G n) : MI l D (t0 :: md_tys cm) yX3_are wsX3_are { frames := 1, cells := 0, slots := 0, locals := 21 } [.ref o, .int x1, .int x2] (md_W o am cm G S B) ((sm_are G B x1 x2).1) (md_W o am cm (sm_are G B x1 x2).2 S B) := by
  refine MI.start (cc := cX3_are) (maxL := 3) (by decide) rfl (Nat.le_of_ble_eq_true rfl) (fun p e s m args below meth c A ls C T hl => ?_)
  have hx := C.1.1
  have hb := C.1.2.1
  have hml := C.1.2.2.1
  have hown : s.vm.findClass RX3 = some m.cls := C.1.2.2.2.1
  have hts := C.1.2.2.2.2
  have hK := C.2.2.2.1
  have hinM : ∀ w ∈ wsX30, w ∈ wsX3_are := fun w h => List.mem_cons_of_mem _ (inX3 w h)
  have hn32 := hG.1
  have hl : lv_has ls 3 [(0, .ref o), (1, .int x1), (2, .int x2)] := hl
  refine lv_aload_n hx hb dX3_are_0 rfl (lv_at hl 0 rfl) ?_
  refine lv_iconst (v := 0) hx hb dX3_are_1 (by decide) ?_
  refine va_put (D := D) (ci := 2) (v := .int 0) (ty := .int) (C := RX3) (T := TX3) (N := 19) hx hb hts hinM tyX3 tyX3_ok nmX3 hown hK T.1 T.2.1 T.2.2 0 rfl rfl 0 (by decide) (hts _ (List.mem_cons_of_mem _ k3_f54)) (fun _ h9 => h9) rfl (by decide +kernel) rfl rfl (Nat.le_of_ble_eq_true rfl) dX3_are_2 (fun H locs hP hD hS => ?_)
  have T := md_setG (k := 3) (v := 0) (kk := 0) rfl ⟨hP, hD, hS⟩
  refine lv_aload_n hx hb dX3_are_5 rfl (lv_at hl 0 rfl) ?_
  refine lv_iload_n hx hb dX3_are_6 rfl (lv_at hl 1 rfl) ?_
  refine hw_Vi (As := [.int x1]) (rest := []) C T (c_M_isSector) (cwV 1 hts (x3_in k3_m63 k3_i_isSector k3_s_isSector k3_ini k3_c_isSector) rfl rfl rfl (by decide +kernel) ⟨Nat.le_of_ble_eq_true rfl, Nat.le_of_ble_eq_true rfl⟩) md_isO md_ad rfl hl.1 rfl (Nat.le_of_ble_eq_true rfl) dX3_are_7 ⟨Nat.zero_le _, Nat.zero_le _⟩ (fun H locs T => ?_)
  refine lv_if_eq (tgt := 59) hx hb dX3_are_10 (by decide) (fun c_10 => ?_) (fun c_10 => ?_)
  · skip
    refine lv_iconst (v := 0) hx hb dX3_are_59 (by decide) ?_
    have e9 : sm_are G B x1 x2 = (0, upd G 3 0) := by unfold sm_are; simp only [if_pos c_10]
    exact hw_iret C T (by decide) (by rw [e9]) (by rw [e9]) dX3_are_60
  · skip
    refine lv_aload_n hx hb dX3_are_13 rfl (lv_at hl 0 rfl) ?_
    refine lv_iload_n hx hb dX3_are_14 rfl (lv_at hl 2 rfl) ?_
    refine hw_Vi (As := [.int x2]) (rest := []) C T (c_M_isSector) (cwV 1 hts (x3_in k3_m63 k3_i_isSector k3_s_isSector k3_ini k3_c_isSector) rfl rfl rfl (by decide +kernel) ⟨Nat.le_of_ble_eq_true rfl, Nat.le_of_ble_eq_true rfl⟩) md_isO md_ad rfl hl.1 rfl (Nat.le_of_ble_eq_true rfl) dX3_are_15 ⟨Nat.zero_le _, Nat.zero_le _⟩ (fun H locs T => ?_)
    refine lv_if_eq (tgt := 59) hx hb dX3_are_18 (by decide) (fun c_18 => ?_) (fun c_18 => ?_)
    · skip
      refine lv_iconst (v := 0) hx hb dX3_are_59 (by decide) ?_
      have e9 : sm_are G B x1 x2 = (0, upd G 3 0) := by unfold sm_are; simp only [if_neg c_10, if_pos c_18]
      exact hw_iret C T (by decide) (by rw [e9]) (by rw [e9]) dX3_are_60
    · skip
      refine lv_aload_n hx hb dX3_are_21 rfl (lv_at hl 0 rfl) ?_
      refine va_get (D := D) (ci := 2) (v := .ref (am 5)) (C := RX3) (T := TX3) (N := 19) hx hb hts hinM hown hK T.1 0 rfl rfl 7 (by decide) (hts _ (List.mem_cons_of_mem _ k3_f25)) (fun _ h9 => h9) rfl dX3_are_22 ?_
      refine lv_aload_n hx hb dX3_are_25 rfl (lv_at hl 0 rfl) ?_
      refine lv_iload_n hx hb dX3_are_26 rfl (lv_at hl 1 rfl) ?_
      refine hw_Vi (As := [.int x1]) (rest := [.ref (am 5)]) C T (c_M_isSector) (cwV 1 hts (x3_in k3_m63 k3_i_isSector k3_s_isSector k3_ini k3_c_isSector) rfl rfl rfl (by decide +kernel) ⟨Nat.le_of_ble_eq_true rfl, Nat.le_of_ble_eq_true rfl⟩) md_isO md_ad rfl hl.1 rfl (Nat.le_of_ble_eq_true rfl) dX3_are_27 ⟨Nat.zero_le _, Nat.zero_le _⟩ (fun H locs T => ?_)
      refine lv_if_eq (tgt := 50) hx hb dX3_are_30 (by decide) (fun c_30 => absurd c_30 c_10) (fun _ => ?_)
      refine lv_aload_n hx hb dX3_are_33 rfl (lv_at hl 0 rfl) ?_
      refine lv_iload_n hx hb dX3_are_34 rfl (lv_at hl 2 rfl) ?_
      refine hw_Vi (As := [.int x2]) (rest := [.ref (am 5)]) C T (c_M_isSector) (cwV 1 hts (x3_in k3_m63 k3_i_isSector k3_s_isSector k3_ini k3_c_isSector) rfl rfl rfl (by decide +kernel) ⟨Nat.le_of_ble_eq_true rfl, Nat.le_of_ble_eq_true rfl⟩) md_isO md_ad rfl hl.1 rfl (Nat.le_of_ble_eq_true rfl) dX3_are_35 ⟨Nat.zero_le _, Nat.zero_le _⟩ (fun H locs T => ?_)
      refine lv_if_eq (tgt := 50) hx hb dX3_are_38 (by decide) (fun c_38 => absurd c_38 c_18) (fun _ => ?_)
      refine lv_bipush (v := 32) hx hb dX3_are_41 (by decide) ?_
      refine lv_iload_n hx hb dX3_are_43 rfl (lv_at hl 1 rfl) ?_
      refine lv_imul hx hb dX3_are_44 ?_
      refine lv_iload_n hx hb dX3_are_45 rfl (lv_at hl 2 rfl) ?_
      refine lv_iadd hx hb dX3_are_46 ?_
      refine lv_goto (tgt := 51) hx hb dX3_are_47 (by decide) ?_
      have h_51 : vp_in ((32 * x1) + x2) 1024 := (by first | exact mb_in (mx_in (hg_up (by decide) hG) c_10) (mx_in (hg_up (by decide) hG) c_18) | (unfold vp_in; decide))
      refine va_zald hx hb hK T.1 6 6 rfl rfl h_51 dX3_are_51 ?_
      refine W.eq (g2 := F0 m 52 ls [.int (B (((32 * x1) + x2).toNatClampNeg))]) rfl ?_
      refine lv_if_eq (tgt := 59) hx hb dX3_are_52 (by decide) (fun c_52 => ?_) (fun c_52 => ?_)
      · skip
        refine lv_iconst (v := 0) hx hb dX3_are_59 (by decide) ?_
        have e9 : sm_are G B x1 x2 = (0, upd G 3 0) := by unfold sm_are; simp only [if_neg c_10, if_neg c_18, if_pos c_52]
        exact hw_iret C T (by decide) (by rw [e9]) (by rw [e9]) dX3_are_60
      · skip
        refine lv_iconst (v := 1) hx hb dX3_are_55 (by decide) ?_
        refine lv_goto (tgt := 60) hx hb dX3_are_56 (by decide) ?_
        have e9 : sm_are G B x1 x2 = (1, upd G 3 0) := by unfold sm_are; simp only [if_neg c_10, if_neg c_18, if_neg c_52]
        exact hw_iret C T (by decide) (by rw [e9]) (by rw [e9]) dX3_are_60
/-- open, its picture -/
def sm_open (G : Nat → Int32) (S : Nat → Nat → Int32) (B : Nat → Int32) (x1 : Int32) (x2 : Int32) : Int32 × (Nat → Int32) := if ((sm_are G B x1 x2).1) = 0 then (0, (sm_are G B x1 x2).2) else (if (S x2.toNatClampNeg 7) ≤ (S x1.toNatClampNeg 7) then (if (S x1.toNatClampNeg 6) ≤ (S x2.toNatClampNeg 6) then (if 24 < ((S x2.toNatClampNeg 6) - (S x1.toNatClampNeg 6)) then (0, (sm_are G B x1 x2).2) else (if ((S x2.toNatClampNeg 7) - (S x2.toNatClampNeg 6)) < 56 then (0, (sm_are G B x1 x2).2) else (1, (sm_are G B x1 x2).2))) else (if 24 < ((S x2.toNatClampNeg 6) - (S x1.toNatClampNeg 6)) then (0, (sm_are G B x1 x2).2) else (if ((S x2.toNatClampNeg 7) - (S x1.toNatClampNeg 6)) < 56 then (0, (sm_are G B x1 x2).2) else (1, (sm_are G B x1 x2).2)))) else (if (S x1.toNatClampNeg 6) ≤ (S x2.toNatClampNeg 6) then (if 24 < ((S x2.toNatClampNeg 6) - (S x1.toNatClampNeg 6)) then (0, (sm_are G B x1 x2).2) else (if ((S x1.toNatClampNeg 7) - (S x2.toNatClampNeg 6)) < 56 then (0, (sm_are G B x1 x2).2) else (1, (sm_are G B x1 x2).2))) else (if 24 < ((S x2.toNatClampNeg 6) - (S x1.toNatClampNeg 6)) then (0, (sm_are G B x1 x2).2) else (if ((S x1.toNatClampNeg 7) - (S x1.toNatClampNeg 6)) < 56 then (0, (sm_are G B x1 x2).2) else (1, (sm_are G B x1 x2).2)))))
set_option maxHeartbeats 4000000 in
set_option maxRecDepth 100000 in
theorem c_M_open {x1 : Int32} {x2 : Int32} (hG : hg_n G n) : MI l D (t0 :: md_tys cm) yX3_open wsX3_open { frames := 2, cells := 0, slots := 0, locals := 43 } [.ref o, .int x1, .int x2] (md_W o am cm G S B) ((sm_open G S B x1 x2).1) (md_W o am cm (sm_open G S B x1 x2).2 S B) := by
  refine MI.start (cc := cX3_open) (maxL := 5) (by decide) rfl (Nat.le_of_ble_eq_true rfl) (fun p e s m args below meth c A ls C T hl => ?_)
  have hx := C.1.1
  have hb := C.1.2.1
  have hml := C.1.2.2.1
  have hown : s.vm.findClass RX3 = some m.cls := C.1.2.2.2.1
  have hts := C.1.2.2.2.2
  have hK := C.2.2.2.1
  have hinM : ∀ w ∈ wsX30, w ∈ wsX3_open := fun w h => List.mem_cons_of_mem _ (inX3 w h)
  have hn32 := hG.1
  have hl : lv_has ls 5 [(0, .ref o), (1, .int x1), (2, .int x2)] := hl
  refine lv_aload_n hx hb dX3_open_0 rfl (lv_at hl 0 rfl) ?_
  refine lv_iload_n hx hb dX3_open_1 rfl (lv_at hl 1 rfl) ?_
  refine lv_iload_n hx hb dX3_open_2 rfl (lv_at hl 2 rfl) ?_
  refine hw_Vi (As := [.int x1, .int x2]) (rest := []) C T (c_M_are hG) (cwV 2 hts (x3_in k3_m116 k3_i_are k3_s_are k3_ini k3_c_are) rfl rfl rfl (by decide +kernel) ⟨Nat.le_of_ble_eq_true rfl, Nat.le_of_ble_eq_true rfl⟩) md_isO md_ad rfl hl.1 rfl (Nat.le_of_ble_eq_true rfl) dX3_open_3 ⟨Nat.zero_le _, Nat.zero_le _⟩ (fun H locs T => ?_)
  refine lv_if_ne (tgt := 11) hx hb dX3_open_6 (by decide) (fun c_6 => ?_) (fun c_6 => ?_)
  · skip
    refine lv_aload_n hx hb dX3_open_11 rfl (lv_at hl 0 rfl) ?_
    refine va_get (D := D) (ci := 2) (v := .ref (am 7)) (C := RX3) (T := TX3) (N := 19) hx hb hts hinM hown hK T.1 0 rfl rfl 10 (by decide) (hts _ (List.mem_cons_of_mem _ k3_f32)) (fun _ h9 => h9) rfl dX3_open_12 ?_
    refine lv_iload_n hx hb dX3_open_15 rfl (lv_at hl 1 rfl) ?_
    have h_16 : vp_in x1 32 := (mx_are hG c_6).1
    refine va_iald hx hb hK T.1 8 8 rfl rfl h_16 dX3_open_16 ?_
    refine W.eq (g2 := F0 m 17 ls [.int (S x1.toNatClampNeg 7)]) rfl ?_
    refine lv_aload_n hx hb dX3_open_17 rfl (lv_at hl 0 rfl) ?_
    refine va_get (D := D) (ci := 2) (v := .ref (am 7)) (C := RX3) (T := TX3) (N := 19) hx hb hts hinM hown hK T.1 0 rfl rfl 10 (by decide) (hts _ (List.mem_cons_of_mem _ k3_f32)) (fun _ h9 => h9) rfl dX3_open_18 ?_
    refine lv_iload_n hx hb dX3_open_21 rfl (lv_at hl 2 rfl) ?_
    have h_22 : vp_in x2 32 := (mx_are hG c_6).2
    refine va_iald hx hb hK T.1 8 8 rfl rfl h_22 dX3_open_22 ?_
    refine W.eq (g2 := F0 m 23 ls [.int (S x2.toNatClampNeg 7), .int (S x1.toNatClampNeg 7)]) rfl ?_
    refine lv_icmp_ge (tgt := 35) hx hb dX3_open_23 (by decide) (fun c_23 => ?_) (fun c_23 => ?_)
    · skip
      refine lv_aload_n hx hb dX3_open_35 rfl (lv_at hl 0 rfl) ?_
      refine va_get (D := D) (ci := 2) (v := .ref (am 7)) (C := RX3) (T := TX3) (N := 19) hx hb hts hinM hown hK T.1 0 rfl rfl 10 (by decide) (hts _ (List.mem_cons_of_mem _ k3_f32)) (fun _ h9 => h9) rfl dX3_open_36 ?_
      refine lv_iload_n hx hb dX3_open_39 rfl (lv_at hl 2 rfl) ?_
      have h_40 : vp_in x2 32 := (mx_are hG c_6).2
      refine va_iald hx hb hK T.1 8 8 rfl rfl h_40 dX3_open_40 ?_
      refine W.eq (g2 := F0 m 41 ls [.int (S x2.toNatClampNeg 7)]) rfl ?_
      refine lv_istore_n (lv' := [(3, .int (S x2.toNatClampNeg 7)), (0, .ref o), (1, .int x1), (2, .int x2)]) hx hb dX3_open_41 rfl hl (by decide) rfl (fun ls hl => ?_)
      refine lv_aload_n hx hb dX3_open_42 rfl (lv_at hl 1 rfl) ?_
      refine va_get (D := D) (ci := 2) (v := .ref (am 6)) (C := RX3) (T := TX3) (N := 19) hx hb hts hinM hown hK T.1 0 rfl rfl 9 (by decide) (hts _ (List.mem_cons_of_mem _ k3_f29)) (fun _ h9 => h9) rfl dX3_open_43 ?_
      refine lv_iload_n hx hb dX3_open_46 rfl (lv_at hl 2 rfl) ?_
      have h_47 : vp_in x1 32 := (mx_are hG c_6).1
      refine va_iald hx hb hK T.1 7 7 rfl rfl h_47 dX3_open_47 ?_
      refine W.eq (g2 := F0 m 48 ls [.int (S x1.toNatClampNeg 6)]) rfl ?_
      refine lv_aload_n hx hb dX3_open_48 rfl (lv_at hl 1 rfl) ?_
      refine va_get (D := D) (ci := 2) (v := .ref (am 6)) (C := RX3) (T := TX3) (N := 19) hx hb hts hinM hown hK T.1 0 rfl rfl 9 (by decide) (hts _ (List.mem_cons_of_mem _ k3_f29)) (fun _ h9 => h9) rfl dX3_open_49 ?_
      refine lv_iload_n hx hb dX3_open_52 rfl (lv_at hl 3 rfl) ?_
      have h_53 : vp_in x2 32 := (mx_are hG c_6).2
      refine va_iald hx hb hK T.1 7 7 rfl rfl h_53 dX3_open_53 ?_
      refine W.eq (g2 := F0 m 54 ls [.int (S x2.toNatClampNeg 6), .int (S x1.toNatClampNeg 6)]) rfl ?_
      refine lv_icmp_le (tgt := 66) hx hb dX3_open_54 (by decide) (fun c_54 => ?_) (fun c_54 => ?_)
      · skip
        refine lv_aload_n hx hb dX3_open_66 rfl (lv_at hl 1 rfl) ?_
        refine va_get (D := D) (ci := 2) (v := .ref (am 6)) (C := RX3) (T := TX3) (N := 19) hx hb hts hinM hown hK T.1 0 rfl rfl 9 (by decide) (hts _ (List.mem_cons_of_mem _ k3_f29)) (fun _ h9 => h9) rfl dX3_open_67 ?_
        refine lv_iload_n hx hb dX3_open_70 rfl (lv_at hl 3 rfl) ?_
        have h_71 : vp_in x2 32 := (mx_are hG c_6).2
        refine va_iald hx hb hK T.1 7 7 rfl rfl h_71 dX3_open_71 ?_
        refine W.eq (g2 := F0 m 72 ls [.int (S x2.toNatClampNeg 6)]) rfl ?_
        refine lv_istore (lv' := [(4, .int (S x2.toNatClampNeg 6)), (3, .int (S x2.toNatClampNeg 7)), (0, .ref o), (1, .int x1), (2, .int x2)]) hx hb dX3_open_72 hl (by decide) rfl (fun ls hl => ?_)
        refine lv_aload_n hx hb dX3_open_74 rfl (lv_at hl 2 rfl) ?_
        refine va_get (D := D) (ci := 2) (v := .ref (am 6)) (C := RX3) (T := TX3) (N := 19) hx hb hts hinM hown hK T.1 0 rfl rfl 9 (by decide) (hts _ (List.mem_cons_of_mem _ k3_f29)) (fun _ h9 => h9) rfl dX3_open_75 ?_
        refine lv_iload_n hx hb dX3_open_78 rfl (lv_at hl 4 rfl) ?_
        have h_79 : vp_in x2 32 := (mx_are hG c_6).2
        refine va_iald hx hb hK T.1 7 7 rfl rfl h_79 dX3_open_79 ?_
        refine W.eq (g2 := F0 m 80 ls [.int (S x2.toNatClampNeg 6)]) rfl ?_
        refine lv_aload_n hx hb dX3_open_80 rfl (lv_at hl 2 rfl) ?_
        refine va_get (D := D) (ci := 2) (v := .ref (am 6)) (C := RX3) (T := TX3) (N := 19) hx hb hts hinM hown hK T.1 0 rfl rfl 9 (by decide) (hts _ (List.mem_cons_of_mem _ k3_f29)) (fun _ h9 => h9) rfl dX3_open_81 ?_
        refine lv_iload_n hx hb dX3_open_84 rfl (lv_at hl 3 rfl) ?_
        have h_85 : vp_in x1 32 := (mx_are hG c_6).1
        refine va_iald hx hb hK T.1 7 7 rfl rfl h_85 dX3_open_85 ?_
        refine W.eq (g2 := F0 m 86 ls [.int (S x1.toNatClampNeg 6), .int (S x2.toNatClampNeg 6)]) rfl ?_
        refine lv_isub hx hb dX3_open_86 ?_
        refine lv_bipush (v := 24) hx hb dX3_open_87 (by decide) ?_
        refine lv_icmp_gt (tgt := 105) hx hb dX3_open_89 (by decide) (fun c_89 => ?_) (fun c_89 => ?_)
        · skip
          refine lv_iconst (v := 0) hx hb dX3_open_105 (by decide) ?_
          have e9 : sm_open G S B x1 x2 = (0, (sm_are G B x1 x2).2) := by unfold sm_open; simp only [if_neg c_6, if_pos c_23, if_pos c_54, if_pos c_89]
          exact hw_iret C T (by decide) (by rw [e9]) (by rw [e9]) dX3_open_106
        · skip
          refine lv_iload_n hx hb dX3_open_92 rfl (lv_at hl 1 rfl) ?_
          refine lv_iload hx hb dX3_open_93 (lv_at hl 0 rfl) ?_
          refine lv_isub hx hb dX3_open_95 ?_
          refine lv_bipush (v := 56) hx hb dX3_open_96 (by decide) ?_
          refine lv_icmp_lt (tgt := 105) hx hb dX3_open_98 (by decide) (fun c_98 => ?_) (fun c_98 => ?_)
          · skip
            refine lv_iconst (v := 0) hx hb dX3_open_105 (by decide) ?_
            have e9 : sm_open G S B x1 x2 = (0, (sm_are G B x1 x2).2) := by unfold sm_open; simp only [if_neg c_6, if_pos c_23, if_pos c_54, if_neg c_89, if_pos c_98]
            exact hw_iret C T (by decide) (by rw [e9]) (by rw [e9]) dX3_open_106
          · skip
            refine lv_iconst (v := 1) hx hb dX3_open_101 (by decide) ?_
            refine lv_goto (tgt := 106) hx hb dX3_open_102 (by decide) ?_
            have e9 : sm_open G S B x1 x2 = (1, (sm_are G B x1 x2).2) := by unfold sm_open; simp only [if_neg c_6, if_pos c_23, if_pos c_54, if_neg c_89, if_neg c_98]
            exact hw_iret C T (by decide) (by rw [e9]) (by rw [e9]) dX3_open_106
      · skip
        refine lv_aload_n hx hb dX3_open_57 rfl (lv_at hl 1 rfl) ?_
        refine va_get (D := D) (ci := 2) (v := .ref (am 6)) (C := RX3) (T := TX3) (N := 19) hx hb hts hinM hown hK T.1 0 rfl rfl 9 (by decide) (hts _ (List.mem_cons_of_mem _ k3_f29)) (fun _ h9 => h9) rfl dX3_open_58 ?_
        refine lv_iload_n hx hb dX3_open_61 rfl (lv_at hl 2 rfl) ?_
        have h_62 : vp_in x1 32 := (mx_are hG c_6).1
        refine va_iald hx hb hK T.1 7 7 rfl rfl h_62 dX3_open_62 ?_
        refine W.eq (g2 := F0 m 63 ls [.int (S x1.toNatClampNeg 6)]) rfl ?_
        refine lv_goto (tgt := 72) hx hb dX3_open_63 (by decide) ?_
        refine lv_istore (lv' := [(4, .int (S x1.toNatClampNeg 6)), (3, .int (S x2.toNatClampNeg 7)), (0, .ref o), (1, .int x1), (2, .int x2)]) hx hb dX3_open_72 hl (by decide) rfl (fun ls hl => ?_)
        refine lv_aload_n hx hb dX3_open_74 rfl (lv_at hl 2 rfl) ?_
        refine va_get (D := D) (ci := 2) (v := .ref (am 6)) (C := RX3) (T := TX3) (N := 19) hx hb hts hinM hown hK T.1 0 rfl rfl 9 (by decide) (hts _ (List.mem_cons_of_mem _ k3_f29)) (fun _ h9 => h9) rfl dX3_open_75 ?_
        refine lv_iload_n hx hb dX3_open_78 rfl (lv_at hl 4 rfl) ?_
        have h_79 : vp_in x2 32 := (mx_are hG c_6).2
        refine va_iald hx hb hK T.1 7 7 rfl rfl h_79 dX3_open_79 ?_
        refine W.eq (g2 := F0 m 80 ls [.int (S x2.toNatClampNeg 6)]) rfl ?_
        refine lv_aload_n hx hb dX3_open_80 rfl (lv_at hl 2 rfl) ?_
        refine va_get (D := D) (ci := 2) (v := .ref (am 6)) (C := RX3) (T := TX3) (N := 19) hx hb hts hinM hown hK T.1 0 rfl rfl 9 (by decide) (hts _ (List.mem_cons_of_mem _ k3_f29)) (fun _ h9 => h9) rfl dX3_open_81 ?_
        refine lv_iload_n hx hb dX3_open_84 rfl (lv_at hl 3 rfl) ?_
        have h_85 : vp_in x1 32 := (mx_are hG c_6).1
        refine va_iald hx hb hK T.1 7 7 rfl rfl h_85 dX3_open_85 ?_
        refine W.eq (g2 := F0 m 86 ls [.int (S x1.toNatClampNeg 6), .int (S x2.toNatClampNeg 6)]) rfl ?_
        refine lv_isub hx hb dX3_open_86 ?_
        refine lv_bipush (v := 24) hx hb dX3_open_87 (by decide) ?_
        refine lv_icmp_gt (tgt := 105) hx hb dX3_open_89 (by decide) (fun c_89 => ?_) (fun c_89 => ?_)
        · skip
          refine lv_iconst (v := 0) hx hb dX3_open_105 (by decide) ?_
          have e9 : sm_open G S B x1 x2 = (0, (sm_are G B x1 x2).2) := by unfold sm_open; simp only [if_neg c_6, if_pos c_23, if_neg c_54, if_pos c_89]
          exact hw_iret C T (by decide) (by rw [e9]) (by rw [e9]) dX3_open_106
        · skip
          refine lv_iload_n hx hb dX3_open_92 rfl (lv_at hl 1 rfl) ?_
          refine lv_iload hx hb dX3_open_93 (lv_at hl 0 rfl) ?_
          refine lv_isub hx hb dX3_open_95 ?_
          refine lv_bipush (v := 56) hx hb dX3_open_96 (by decide) ?_
          refine lv_icmp_lt (tgt := 105) hx hb dX3_open_98 (by decide) (fun c_98 => ?_) (fun c_98 => ?_)
          · skip
            refine lv_iconst (v := 0) hx hb dX3_open_105 (by decide) ?_
            have e9 : sm_open G S B x1 x2 = (0, (sm_are G B x1 x2).2) := by unfold sm_open; simp only [if_neg c_6, if_pos c_23, if_neg c_54, if_neg c_89, if_pos c_98]
            exact hw_iret C T (by decide) (by rw [e9]) (by rw [e9]) dX3_open_106
          · skip
            refine lv_iconst (v := 1) hx hb dX3_open_101 (by decide) ?_
            refine lv_goto (tgt := 106) hx hb dX3_open_102 (by decide) ?_
            have e9 : sm_open G S B x1 x2 = (1, (sm_are G B x1 x2).2) := by unfold sm_open; simp only [if_neg c_6, if_pos c_23, if_neg c_54, if_neg c_89, if_neg c_98]
            exact hw_iret C T (by decide) (by rw [e9]) (by rw [e9]) dX3_open_106
    · skip
      refine lv_aload_n hx hb dX3_open_26 rfl (lv_at hl 0 rfl) ?_
      refine va_get (D := D) (ci := 2) (v := .ref (am 7)) (C := RX3) (T := TX3) (N := 19) hx hb hts hinM hown hK T.1 0 rfl rfl 10 (by decide) (hts _ (List.mem_cons_of_mem _ k3_f32)) (fun _ h9 => h9) rfl dX3_open_27 ?_
      refine lv_iload_n hx hb dX3_open_30 rfl (lv_at hl 1 rfl) ?_
      have h_31 : vp_in x1 32 := (mx_are hG c_6).1
      refine va_iald hx hb hK T.1 8 8 rfl rfl h_31 dX3_open_31 ?_
      refine W.eq (g2 := F0 m 32 ls [.int (S x1.toNatClampNeg 7)]) rfl ?_
      refine lv_goto (tgt := 41) hx hb dX3_open_32 (by decide) ?_
      refine lv_istore_n (lv' := [(3, .int (S x1.toNatClampNeg 7)), (0, .ref o), (1, .int x1), (2, .int x2)]) hx hb dX3_open_41 rfl hl (by decide) rfl (fun ls hl => ?_)
      refine lv_aload_n hx hb dX3_open_42 rfl (lv_at hl 1 rfl) ?_
      refine va_get (D := D) (ci := 2) (v := .ref (am 6)) (C := RX3) (T := TX3) (N := 19) hx hb hts hinM hown hK T.1 0 rfl rfl 9 (by decide) (hts _ (List.mem_cons_of_mem _ k3_f29)) (fun _ h9 => h9) rfl dX3_open_43 ?_
      refine lv_iload_n hx hb dX3_open_46 rfl (lv_at hl 2 rfl) ?_
      have h_47 : vp_in x1 32 := (mx_are hG c_6).1
      refine va_iald hx hb hK T.1 7 7 rfl rfl h_47 dX3_open_47 ?_
      refine W.eq (g2 := F0 m 48 ls [.int (S x1.toNatClampNeg 6)]) rfl ?_
      refine lv_aload_n hx hb dX3_open_48 rfl (lv_at hl 1 rfl) ?_
      refine va_get (D := D) (ci := 2) (v := .ref (am 6)) (C := RX3) (T := TX3) (N := 19) hx hb hts hinM hown hK T.1 0 rfl rfl 9 (by decide) (hts _ (List.mem_cons_of_mem _ k3_f29)) (fun _ h9 => h9) rfl dX3_open_49 ?_
      refine lv_iload_n hx hb dX3_open_52 rfl (lv_at hl 3 rfl) ?_
      have h_53 : vp_in x2 32 := (mx_are hG c_6).2
      refine va_iald hx hb hK T.1 7 7 rfl rfl h_53 dX3_open_53 ?_
      refine W.eq (g2 := F0 m 54 ls [.int (S x2.toNatClampNeg 6), .int (S x1.toNatClampNeg 6)]) rfl ?_
      refine lv_icmp_le (tgt := 66) hx hb dX3_open_54 (by decide) (fun c_54 => ?_) (fun c_54 => ?_)
      · skip
        refine lv_aload_n hx hb dX3_open_66 rfl (lv_at hl 1 rfl) ?_
        refine va_get (D := D) (ci := 2) (v := .ref (am 6)) (C := RX3) (T := TX3) (N := 19) hx hb hts hinM hown hK T.1 0 rfl rfl 9 (by decide) (hts _ (List.mem_cons_of_mem _ k3_f29)) (fun _ h9 => h9) rfl dX3_open_67 ?_
        refine lv_iload_n hx hb dX3_open_70 rfl (lv_at hl 3 rfl) ?_
        have h_71 : vp_in x2 32 := (mx_are hG c_6).2
        refine va_iald hx hb hK T.1 7 7 rfl rfl h_71 dX3_open_71 ?_
        refine W.eq (g2 := F0 m 72 ls [.int (S x2.toNatClampNeg 6)]) rfl ?_
        refine lv_istore (lv' := [(4, .int (S x2.toNatClampNeg 6)), (3, .int (S x1.toNatClampNeg 7)), (0, .ref o), (1, .int x1), (2, .int x2)]) hx hb dX3_open_72 hl (by decide) rfl (fun ls hl => ?_)
        refine lv_aload_n hx hb dX3_open_74 rfl (lv_at hl 2 rfl) ?_
        refine va_get (D := D) (ci := 2) (v := .ref (am 6)) (C := RX3) (T := TX3) (N := 19) hx hb hts hinM hown hK T.1 0 rfl rfl 9 (by decide) (hts _ (List.mem_cons_of_mem _ k3_f29)) (fun _ h9 => h9) rfl dX3_open_75 ?_
        refine lv_iload_n hx hb dX3_open_78 rfl (lv_at hl 4 rfl) ?_
        have h_79 : vp_in x2 32 := (mx_are hG c_6).2
        refine va_iald hx hb hK T.1 7 7 rfl rfl h_79 dX3_open_79 ?_
        refine W.eq (g2 := F0 m 80 ls [.int (S x2.toNatClampNeg 6)]) rfl ?_
        refine lv_aload_n hx hb dX3_open_80 rfl (lv_at hl 2 rfl) ?_
        refine va_get (D := D) (ci := 2) (v := .ref (am 6)) (C := RX3) (T := TX3) (N := 19) hx hb hts hinM hown hK T.1 0 rfl rfl 9 (by decide) (hts _ (List.mem_cons_of_mem _ k3_f29)) (fun _ h9 => h9) rfl dX3_open_81 ?_
        refine lv_iload_n hx hb dX3_open_84 rfl (lv_at hl 3 rfl) ?_
        have h_85 : vp_in x1 32 := (mx_are hG c_6).1
        refine va_iald hx hb hK T.1 7 7 rfl rfl h_85 dX3_open_85 ?_
        refine W.eq (g2 := F0 m 86 ls [.int (S x1.toNatClampNeg 6), .int (S x2.toNatClampNeg 6)]) rfl ?_
        refine lv_isub hx hb dX3_open_86 ?_
        refine lv_bipush (v := 24) hx hb dX3_open_87 (by decide) ?_
        refine lv_icmp_gt (tgt := 105) hx hb dX3_open_89 (by decide) (fun c_89 => ?_) (fun c_89 => ?_)
        · skip
          refine lv_iconst (v := 0) hx hb dX3_open_105 (by decide) ?_
          have e9 : sm_open G S B x1 x2 = (0, (sm_are G B x1 x2).2) := by unfold sm_open; simp only [if_neg c_6, if_neg c_23, if_pos c_54, if_pos c_89]
          exact hw_iret C T (by decide) (by rw [e9]) (by rw [e9]) dX3_open_106
        · skip
          refine lv_iload_n hx hb dX3_open_92 rfl (lv_at hl 1 rfl) ?_
          refine lv_iload hx hb dX3_open_93 (lv_at hl 0 rfl) ?_
          refine lv_isub hx hb dX3_open_95 ?_
          refine lv_bipush (v := 56) hx hb dX3_open_96 (by decide) ?_
          refine lv_icmp_lt (tgt := 105) hx hb dX3_open_98 (by decide) (fun c_98 => ?_) (fun c_98 => ?_)
          · skip
            refine lv_iconst (v := 0) hx hb dX3_open_105 (by decide) ?_
            have e9 : sm_open G S B x1 x2 = (0, (sm_are G B x1 x2).2) := by unfold sm_open; simp only [if_neg c_6, if_neg c_23, if_pos c_54, if_neg c_89, if_pos c_98]
            exact hw_iret C T (by decide) (by rw [e9]) (by rw [e9]) dX3_open_106
          · skip
            refine lv_iconst (v := 1) hx hb dX3_open_101 (by decide) ?_
            refine lv_goto (tgt := 106) hx hb dX3_open_102 (by decide) ?_
            have e9 : sm_open G S B x1 x2 = (1, (sm_are G B x1 x2).2) := by unfold sm_open; simp only [if_neg c_6, if_neg c_23, if_pos c_54, if_neg c_89, if_neg c_98]
            exact hw_iret C T (by decide) (by rw [e9]) (by rw [e9]) dX3_open_106
      · skip
        refine lv_aload_n hx hb dX3_open_57 rfl (lv_at hl 1 rfl) ?_
        refine va_get (D := D) (ci := 2) (v := .ref (am 6)) (C := RX3) (T := TX3) (N := 19) hx hb hts hinM hown hK T.1 0 rfl rfl 9 (by decide) (hts _ (List.mem_cons_of_mem _ k3_f29)) (fun _ h9 => h9) rfl dX3_open_58 ?_
        refine lv_iload_n hx hb dX3_open_61 rfl (lv_at hl 2 rfl) ?_
        have h_62 : vp_in x1 32 := (mx_are hG c_6).1
        refine va_iald hx hb hK T.1 7 7 rfl rfl h_62 dX3_open_62 ?_
        refine W.eq (g2 := F0 m 63 ls [.int (S x1.toNatClampNeg 6)]) rfl ?_
        refine lv_goto (tgt := 72) hx hb dX3_open_63 (by decide) ?_
        refine lv_istore (lv' := [(4, .int (S x1.toNatClampNeg 6)), (3, .int (S x1.toNatClampNeg 7)), (0, .ref o), (1, .int x1), (2, .int x2)]) hx hb dX3_open_72 hl (by decide) rfl (fun ls hl => ?_)
        refine lv_aload_n hx hb dX3_open_74 rfl (lv_at hl 2 rfl) ?_
        refine va_get (D := D) (ci := 2) (v := .ref (am 6)) (C := RX3) (T := TX3) (N := 19) hx hb hts hinM hown hK T.1 0 rfl rfl 9 (by decide) (hts _ (List.mem_cons_of_mem _ k3_f29)) (fun _ h9 => h9) rfl dX3_open_75 ?_
        refine lv_iload_n hx hb dX3_open_78 rfl (lv_at hl 4 rfl) ?_
        have h_79 : vp_in x2 32 := (mx_are hG c_6).2
        refine va_iald hx hb hK T.1 7 7 rfl rfl h_79 dX3_open_79 ?_
        refine W.eq (g2 := F0 m 80 ls [.int (S x2.toNatClampNeg 6)]) rfl ?_
        refine lv_aload_n hx hb dX3_open_80 rfl (lv_at hl 2 rfl) ?_
        refine va_get (D := D) (ci := 2) (v := .ref (am 6)) (C := RX3) (T := TX3) (N := 19) hx hb hts hinM hown hK T.1 0 rfl rfl 9 (by decide) (hts _ (List.mem_cons_of_mem _ k3_f29)) (fun _ h9 => h9) rfl dX3_open_81 ?_
        refine lv_iload_n hx hb dX3_open_84 rfl (lv_at hl 3 rfl) ?_
        have h_85 : vp_in x1 32 := (mx_are hG c_6).1
        refine va_iald hx hb hK T.1 7 7 rfl rfl h_85 dX3_open_85 ?_
        refine W.eq (g2 := F0 m 86 ls [.int (S x1.toNatClampNeg 6), .int (S x2.toNatClampNeg 6)]) rfl ?_
        refine lv_isub hx hb dX3_open_86 ?_
        refine lv_bipush (v := 24) hx hb dX3_open_87 (by decide) ?_
        refine lv_icmp_gt (tgt := 105) hx hb dX3_open_89 (by decide) (fun c_89 => ?_) (fun c_89 => ?_)
        · skip
          refine lv_iconst (v := 0) hx hb dX3_open_105 (by decide) ?_
          have e9 : sm_open G S B x1 x2 = (0, (sm_are G B x1 x2).2) := by unfold sm_open; simp only [if_neg c_6, if_neg c_23, if_neg c_54, if_pos c_89]
          exact hw_iret C T (by decide) (by rw [e9]) (by rw [e9]) dX3_open_106
        · skip
          refine lv_iload_n hx hb dX3_open_92 rfl (lv_at hl 1 rfl) ?_
          refine lv_iload hx hb dX3_open_93 (lv_at hl 0 rfl) ?_
          refine lv_isub hx hb dX3_open_95 ?_
          refine lv_bipush (v := 56) hx hb dX3_open_96 (by decide) ?_
          refine lv_icmp_lt (tgt := 105) hx hb dX3_open_98 (by decide) (fun c_98 => ?_) (fun c_98 => ?_)
          · skip
            refine lv_iconst (v := 0) hx hb dX3_open_105 (by decide) ?_
            have e9 : sm_open G S B x1 x2 = (0, (sm_are G B x1 x2).2) := by unfold sm_open; simp only [if_neg c_6, if_neg c_23, if_neg c_54, if_neg c_89, if_pos c_98]
            exact hw_iret C T (by decide) (by rw [e9]) (by rw [e9]) dX3_open_106
          · skip
            refine lv_iconst (v := 1) hx hb dX3_open_101 (by decide) ?_
            refine lv_goto (tgt := 106) hx hb dX3_open_102 (by decide) ?_
            have e9 : sm_open G S B x1 x2 = (1, (sm_are G B x1 x2).2) := by unfold sm_open; simp only [if_neg c_6, if_neg c_23, if_neg c_54, if_neg c_89, if_neg c_98]
            exact hw_iret C T (by decide) (by rw [e9]) (by rw [e9]) dX3_open_106
  · skip
    refine lv_iconst (v := 0) hx hb dX3_open_9 (by decide) ?_
    have e9 : sm_open G S B x1 x2 = (0, (sm_are G B x1 x2).2) := by unfold sm_open; simp only [if_pos c_6]
    exact hw_iret C T (by decide) (by rw [e9]) (by rw [e9]) dX3_open_10
/-- look, its picture -/
def sm_look (G : Nat → Int32) (S : Nat → Nat → Int32) (n : Nat) (x1 : Int32) : Int32 × (Nat → Int32) := if x1 = 0 then ((upd G 3 0) 0, upd G 3 0) else (if x1 = 1 then ((upd G 3 0) 1, upd G 3 0) else (if x1 = 2 then ((upd G 3 0) 2, upd G 3 0) else (if x1 = 3 then (sm_many S n, upd G 3 0) else (if x1 = 4 then ((upd G 3 0) 5, upd G 3 0) else (if x1 = 5 then ((upd G 3 0) 4, upd G 3 0) else ((-1), upd G 3 0))))))
set_option maxHeartbeats 4000000 in
set_option maxRecDepth 100000 in
theorem c_M_look {x1 : Int32} (hG : hg_n G n) : MI l D (t0 :: md_tys cm) yX3_look wsX3_look { frames := 1, cells := 0, slots := 0, locals := 22 } [.ref o, .int x1] (md_W o am cm G S B) ((sm_look G S n x1).1) (md_W o am cm (sm_look G S n x1).2 S B) := by
  refine MI.start (cc := cX3_look) (maxL := 2) (by decide) rfl (Nat.le_of_ble_eq_true rfl) (fun p e s m args below meth c A ls C T hl => ?_)
  have hx := C.1.1
  have hb := C.1.2.1
  have hml := C.1.2.2.1
  have hown : s.vm.findClass RX3 = some m.cls := C.1.2.2.2.1
  have hts := C.1.2.2.2.2
  have hK := C.2.2.2.1
  have hinM : ∀ w ∈ wsX30, w ∈ wsX3_look := fun w h => List.mem_cons_of_mem _ (inX3 w h)
  have hn32 := hG.1
  have hl : lv_has ls 2 [(0, .ref o), (1, .int x1)] := hl
  refine lv_aload_n hx hb dX3_look_0 rfl (lv_at hl 0 rfl) ?_
  refine lv_iconst (v := 0) hx hb dX3_look_1 (by decide) ?_
  refine va_put (D := D) (ci := 2) (v := .int 0) (ty := .int) (C := RX3) (T := TX3) (N := 19) hx hb hts hinM tyX3 tyX3_ok nmX3 hown hK T.1 T.2.1 T.2.2 0 rfl rfl 0 (by decide) (hts _ (List.mem_cons_of_mem _ k3_f54)) (fun _ h9 => h9) rfl (by decide +kernel) rfl rfl (Nat.le_of_ble_eq_true rfl) dX3_look_2 (fun H locs hP hD hS => ?_)
  have T := md_setG (k := 3) (v := 0) (kk := 0) rfl ⟨hP, hD, hS⟩
  refine lv_iload_n hx hb dX3_look_5 rfl (lv_at hl 1 rfl) ?_
  by_cases c_6_0 : x1 = 0
  · skip
    refine lv_tableIn (off := 38) (tgt := 44) hx hb dX3_look_6 (by rw [c_6_0]; decide) (by rw [c_6_0]; decide) (by rw [c_6_0]; decide +kernel) (by decide) ?_
    refine lv_aload_n hx hb dX3_look_44 rfl (lv_at hl 0 rfl) ?_
    refine va_get (D := D) (ci := 2) (v := .int ((upd G 3 0) 0)) (C := RX3) (T := TX3) (N := 19) hx hb hts hinM hown hK T.1 0 rfl rfl 1 (by decide) (hts _ (List.mem_cons_of_mem _ k3_f57)) (fun _ h9 => h9) rfl dX3_look_45 ?_
    have e9 : sm_look G S n x1 = ((upd G 3 0) 0, upd G 3 0) := by unfold sm_look; simp only [if_pos c_6_0]
    exact hw_iret C T rfl (by rw [e9]) (by rw [e9]) dX3_look_48
  · skip
    by_cases c_6_1 : x1 = 1
    · skip
      refine lv_tableIn (off := 43) (tgt := 49) hx hb dX3_look_6 (by rw [c_6_1]; decide) (by rw [c_6_1]; decide) (by rw [c_6_1]; decide +kernel) (by decide) ?_
      refine lv_aload_n hx hb dX3_look_49 rfl (lv_at hl 0 rfl) ?_
      refine va_get (D := D) (ci := 2) (v := .int ((upd G 3 0) 1)) (C := RX3) (T := TX3) (N := 19) hx hb hts hinM hown hK T.1 0 rfl rfl 8 (by decide) (hts _ (List.mem_cons_of_mem _ k3_f67)) (fun _ h9 => h9) rfl dX3_look_50 ?_
      have e9 : sm_look G S n x1 = ((upd G 3 0) 1, upd G 3 0) := by unfold sm_look; simp only [if_neg c_6_0, if_pos c_6_1]
      exact hw_iret C T rfl (by rw [e9]) (by rw [e9]) dX3_look_53
    · skip
      by_cases c_6_2 : x1 = 2
      · skip
        refine lv_tableIn (off := 48) (tgt := 54) hx hb dX3_look_6 (by rw [c_6_2]; decide) (by rw [c_6_2]; decide) (by rw [c_6_2]; decide +kernel) (by decide) ?_
        refine lv_aload_n hx hb dX3_look_54 rfl (lv_at hl 0 rfl) ?_
        refine va_get (D := D) (ci := 2) (v := .int ((upd G 3 0) 2)) (C := RX3) (T := TX3) (N := 19) hx hb hts hinM hown hK T.1 0 rfl rfl 16 (by decide) (hts _ (List.mem_cons_of_mem _ k3_f70)) (fun _ h9 => h9) rfl dX3_look_55 ?_
        have e9 : sm_look G S n x1 = ((upd G 3 0) 2, upd G 3 0) := by unfold sm_look; simp only [if_neg c_6_0, if_neg c_6_1, if_pos c_6_2]
        exact hw_iret C T rfl (by rw [e9]) (by rw [e9]) dX3_look_58
      · skip
        by_cases c_6_3 : x1 = 3
        · skip
          refine lv_tableIn (off := 53) (tgt := 59) hx hb dX3_look_6 (by rw [c_6_3]; decide) (by rw [c_6_3]; decide) (by rw [c_6_3]; decide +kernel) (by decide) ?_
          refine lv_aload_n hx hb dX3_look_59 rfl (lv_at hl 0 rfl) ?_
          refine hw_Vi (As := []) (rest := []) C T (c_M_many (hg_up (by decide) hG)) (cwV 0 hts (x3_in k3_m109 k3_i_many k3_s_many k3_ini k3_c_many) rfl rfl rfl (by decide +kernel) ⟨Nat.le_of_ble_eq_true rfl, Nat.le_of_ble_eq_true rfl⟩) md_isO md_ad rfl hl.1 rfl (Nat.le_of_ble_eq_true rfl) dX3_look_60 ⟨Nat.zero_le _, Nat.zero_le _⟩ (fun H locs T => ?_)
          have e9 : sm_look G S n x1 = (sm_many S n, upd G 3 0) := by unfold sm_look; simp only [if_neg c_6_0, if_neg c_6_1, if_neg c_6_2, if_pos c_6_3]
          exact hw_iret C T rfl (by rw [e9]) (by rw [e9]) dX3_look_63
        · skip
          by_cases c_6_4 : x1 = 4
          · skip
            refine lv_tableIn (off := 58) (tgt := 64) hx hb dX3_look_6 (by rw [c_6_4]; decide) (by rw [c_6_4]; decide) (by rw [c_6_4]; decide +kernel) (by decide) ?_
            refine lv_aload_n hx hb dX3_look_64 rfl (lv_at hl 0 rfl) ?_
            refine va_get (D := D) (ci := 2) (v := .int ((upd G 3 0) 5)) (C := RX3) (T := TX3) (N := 19) hx hb hts hinM hown hK T.1 0 rfl rfl 17 (by decide) (hts _ (List.mem_cons_of_mem _ k3_f50)) (fun _ h9 => h9) rfl dX3_look_65 ?_
            have e9 : sm_look G S n x1 = ((upd G 3 0) 5, upd G 3 0) := by unfold sm_look; simp only [if_neg c_6_0, if_neg c_6_1, if_neg c_6_2, if_neg c_6_3, if_pos c_6_4]
            exact hw_iret C T rfl (by rw [e9]) (by rw [e9]) dX3_look_68
          · skip
            by_cases c_6_5 : x1 = 5
            · skip
              refine lv_tableIn (off := 63) (tgt := 69) hx hb dX3_look_6 (by rw [c_6_5]; decide) (by rw [c_6_5]; decide) (by rw [c_6_5]; decide +kernel) (by decide) ?_
              refine lv_aload_n hx hb dX3_look_69 rfl (lv_at hl 0 rfl) ?_
              refine va_get (D := D) (ci := 2) (v := .int ((upd G 3 0) 4)) (C := RX3) (T := TX3) (N := 19) hx hb hts hinM hown hK T.1 0 rfl rfl 18 (by decide) (hts _ (List.mem_cons_of_mem _ k3_f73)) (fun _ h9 => h9) rfl dX3_look_70 ?_
              have e9 : sm_look G S n x1 = ((upd G 3 0) 4, upd G 3 0) := by unfold sm_look; simp only [if_neg c_6_0, if_neg c_6_1, if_neg c_6_2, if_neg c_6_3, if_neg c_6_4, if_pos c_6_5]
              exact hw_iret C T rfl (by rw [e9]) (by rw [e9]) dX3_look_73
            · skip
              refine lv_tableOut (tgt := 74) hx hb dX3_look_6 (by have z0 := lv_neT (a := 0) c_6_0 (by decide); have z1 := lv_neT (a := 1) c_6_1 (by decide); have z2 := lv_neT (a := 2) c_6_2 (by decide); have z3 := lv_neT (a := 3) c_6_3 (by decide); have z4 := lv_neT (a := 4) c_6_4 (by decide); have z5 := lv_neT (a := 5) c_6_5 (by decide); omega) (by decide) ?_
              refine lv_iconst (v := (-1)) hx hb dX3_look_74 (by decide) ?_
              have e9 : sm_look G S n x1 = ((-1), upd G 3 0) := by unfold sm_look; simp only [if_neg c_6_0, if_neg c_6_1, if_neg c_6_2, if_neg c_6_3, if_neg c_6_4, if_neg c_6_5]
              exact hw_iret C T rfl (by rw [e9]) (by rw [e9]) dX3_look_75
end
end
section
/-! THE REFERENCE's constructor -/
def mc_w0 (o : Nat) : va_W := [(o, .inr (2, [.int 0, .int 0, .null, .null, .null, .null, .null, .null, .int 0, .null, .null, .null, .null, .null, .null, .null, .int 0, .int 0, .int 0]))]
def mc_B : Nat → Int32 := fun _ => 0
abbrev mc_Q (D : va_G) (o : Nat) (A : Nat → Prop) : Array Value → State → Outcome → State → Prop := va_Qv (fun (_ : (Nat → Nat) × (Nat → ClassId)) => True) (fun u t => va_P D vwCl (md_W o u.1 u.2 hc_G hc_S mc_B) t.heap ∧ va_D A (md_W o u.1 u.2 hc_G hc_S mc_B) ∧ va_K D vwCl (md_tys u.2) t) A
set_option maxHeartbeats 4000000 in
set_option maxRecDepth 100000 in
/-- MoverHallModel(): no sectors -/
theorem c_M_init (l : Launch) (D : va_G) (o sz : Nat) : Met l yX3_init wsX3_init { frames := 1, cells := 13, slots := 1408, locals := 12 } (va_Pc [.ref o] (hw_B D [] (mc_w0 o) sz)) (mc_Q D o (va_A (mc_w0 o) sz)) 13 1408 (va_A (mc_w0 o) sz) := by
  refine Met.ofW (cc := cX3_init) (maxL := 1) (ret := none) (by decide) rfl ?_
  intro p e s m args below meth c s₁ B hml hv
  obtain ⟨rfl, hsz, hP, hK, hN, hD0⟩ := hv
  have hx := B.exec
  have hb := B.bytes
  have hts := atoms_spec (ws := wsX3_init) B.pre
  have hown : s.vm.findClass RX3 = some m.cls := findClass_of_methodNamed B.named
  have hin : meth.name = "<init>" := (name_of_methodNamed B.named B.method).1
  have hinM : ∀ w ∈ wsX30, w ∈ wsX3_init := fun w h => List.mem_cons_of_mem _ (inX3 w h)
  subst hsz
  have hD := hD0.self (sz := s.heap.size)
  generalize hAe : va_A (mc_w0 o) s.heap.size = A at hD ⊢
  have hA : ∀ q : Nat, s.heap.size ≤ q → A q := fun q h => by rw [← hAe]; exact Or.inr h
  have hS : va_S A s.heap s.heap [] := va_S.rf
  have hl := lv_entry ([.ref o]) (n := 1) (Nat.le_of_ble_eq_true rfl)
  rw [lg_entry_eq]
  generalize (lg_sl ([.ref o]) ++ List.replicate (1 - (lg_sl ([.ref o])).length) Slot.unset).toArray = ls at hl ⊢
  have hl : lv_has ls 1 [(0, .ref o)] := hl
  refine lv_aload_n hx hb dX3_init_0 rfl (lv_at hl 0 rfl) ?_
  refine W.objInit hx hb hown (hts _ (List.mem_cons_of_mem _ k3_ol)) (hts _ (List.mem_cons_of_mem _ k3_oi)) (hts _ (List.mem_cons_of_mem _ k3_oc)) rfl (by rw [hml]; exact hl.1) rfl dX3_init_1 (Nat.le_of_ble_eq_true rfl) (Nat.le_of_ble_eq_true rfl) ?_
  refine W.eq (g2 := F0 m 4 ls []) rfl ?_
  have hP : va_P D vwCl [(o, .inr (2, [.int 0, .int 0, .null, .null, .null, .null, .null, .null, .int 0, .null, .null, .null, .null, .null, .null, .null, .int 0, .int 0, .int 0]))] s.heap := hP
  have hD : va_D A [(o, .inr (2, [.int 0, .int 0, .null, .null, .null, .null, .null, .null, .int 0, .null, .null, .null, .null, .null, .null, .null, .int 0, .int 0, .int 0]))] := hD
  refine lv_aload_n hx hb dX3_init_4 rfl (lv_at hl 0 rfl) ?_
  refine lv_bipush (v := 32) hx hb dX3_init_5 (by decide) ?_
  refine va_newa (atype := .int) (ty := .int) (a0 := (32, .inl (fun _ => 0))) hx hb (hts _ (List.mem_cons_of_mem _ k3_ai)) rfl hK hP hD hS hA (fun _ => rfl) (n := 32) (N' := 32) (by decide) (by decide) (by decide) (Nat.le_of_ble_eq_true rfl) (Nat.le_of_ble_eq_true rfl) dX3_init_7 (fun a0 c0 H hK hP hD hS => ?_)
  have hK : va_K D vwCl [(c0, .int)] s := hK
  have hP : va_P D vwCl [(o, .inr (2, [.int 0, .int 0, .null, .null, .null, .null, .null, .null, .int 0, .null, .null, .null, .null, .null, .null, .null, .int 0, .int 0, .int 0])), (a0, .inl (c0, 32, .inl (fun _ => 0)))] H := hP
  have hD : va_D A [(o, .inr (2, [.int 0, .int 0, .null, .null, .null, .null, .null, .null, .int 0, .null, .null, .null, .null, .null, .null, .null, .int 0, .int 0, .int 0])), (a0, .inl (c0, 32, .inl (fun _ => 0)))] := hD
  refine va_putF (D := D) (ci := 2) (v := .ref a0) (ty := tyX3 2) (C := RX3) (T := TX3) (N := 19) hx hb hts hinM tyX3 tyX3_ok nmX3 hown hK hP hD hS 0 rfl rfl 2 (by decide) (hts _ (List.mem_cons_of_mem _ k3_f7)) (fun _ h9 => h9) rfl hin rfl (by decide +kernel) rfl rfl (Nat.le_of_ble_eq_true rfl) dX3_init_9 (fun H locs hP hD hS => ?_)
  have hP : va_P D vwCl [(o, .inr (2, [.int 0, .int 0, .ref a0, .null, .null, .null, .null, .null, .int 0, .null, .null, .null, .null, .null, .null, .null, .int 0, .int 0, .int 0])), (a0, .inl (c0, 32, .inl (fun _ => 0)))] H := hP
  have hD : va_D A [(o, .inr (2, [.int 0, .int 0, .ref a0, .null, .null, .null, .null, .null, .int 0, .null, .null, .null, .null, .null, .null, .null, .int 0, .int 0, .int 0])), (a0, .inl (c0, 32, .inl (fun _ => 0)))] := hD
  refine W.widen (k := 1) (n := 32) (Nat.le_of_ble_eq_true rfl) (Nat.le_of_ble_eq_true rfl) ?_
  refine lv_aload_n hx hb dX3_init_12 rfl (lv_at hl 0 rfl) ?_
  refine lv_bipush (v := 32) hx hb dX3_init_13 (by decide) ?_
  refine va_newa (atype := .int) (ty := .int) (a0 := (32, .inl (fun _ => 0))) hx hb (hts _ (List.mem_cons_of_mem _ k3_ai)) rfl hK hP hD hS hA (fun _ => rfl) (n := 32) (N' := 32) (by decide) (by decide) (by decide) (Nat.le_of_ble_eq_true rfl) (Nat.le_of_ble_eq_true rfl) dX3_init_15 (fun a1 c1 H hK hP hD hS => ?_)
  have hK : va_K D vwCl [(c0, .int), (c1, .int)] s := hK
  have hP : va_P D vwCl [(o, .inr (2, [.int 0, .int 0, .ref a0, .null, .null, .null, .null, .null, .int 0, .null, .null, .null, .null, .null, .null, .null, .int 0, .int 0, .int 0])), (a0, .inl (c0, 32, .inl (fun _ => 0))), (a1, .inl (c1, 32, .inl (fun _ => 0)))] H := hP
  have hD : va_D A [(o, .inr (2, [.int 0, .int 0, .ref a0, .null, .null, .null, .null, .null, .int 0, .null, .null, .null, .null, .null, .null, .null, .int 0, .int 0, .int 0])), (a0, .inl (c0, 32, .inl (fun _ => 0))), (a1, .inl (c1, 32, .inl (fun _ => 0)))] := hD
  refine va_putF (D := D) (ci := 2) (v := .ref a1) (ty := tyX3 3) (C := RX3) (T := TX3) (N := 19) hx hb hts hinM tyX3 tyX3_ok nmX3 hown hK hP hD hS 0 rfl rfl 3 (by decide) (hts _ (List.mem_cons_of_mem _ k3_f13)) (fun _ h9 => h9) rfl hin rfl (by decide +kernel) rfl rfl (Nat.le_of_ble_eq_true rfl) dX3_init_17 (fun H locs hP hD hS => ?_)
  have hP : va_P D vwCl [(o, .inr (2, [.int 0, .int 0, .ref a0, .ref a1, .null, .null, .null, .null, .int 0, .null, .null, .null, .null, .null, .null, .null, .int 0, .int 0, .int 0])), (a0, .inl (c0, 32, .inl (fun _ => 0))), (a1, .inl (c1, 32, .inl (fun _ => 0)))] H := hP
  have hD : va_D A [(o, .inr (2, [.int 0, .int 0, .ref a0, .ref a1, .null, .null, .null, .null, .int 0, .null, .null, .null, .null, .null, .null, .null, .int 0, .int 0, .int 0])), (a0, .inl (c0, 32, .inl (fun _ => 0))), (a1, .inl (c1, 32, .inl (fun _ => 0)))] := hD
  refine W.widen (k := 2) (n := 64) (Nat.le_of_ble_eq_true rfl) (Nat.le_of_ble_eq_true rfl) ?_
  refine lv_aload_n hx hb dX3_init_20 rfl (lv_at hl 0 rfl) ?_
  refine lv_bipush (v := 32) hx hb dX3_init_21 (by decide) ?_
  refine va_newa (atype := .int) (ty := .int) (a0 := (32, .inl (fun _ => 0))) hx hb (hts _ (List.mem_cons_of_mem _ k3_ai)) rfl hK hP hD hS hA (fun _ => rfl) (n := 32) (N' := 32) (by decide) (by decide) (by decide) (Nat.le_of_ble_eq_true rfl) (Nat.le_of_ble_eq_true rfl) dX3_init_23 (fun a2 c2 H hK hP hD hS => ?_)
  have hK : va_K D vwCl [(c0, .int), (c1, .int), (c2, .int)] s := hK
  have hP : va_P D vwCl [(o, .inr (2, [.int 0, .int 0, .ref a0, .ref a1, .null, .null, .null, .null, .int 0, .null, .null, .null, .null, .null, .null, .null, .int 0, .int 0, .int 0])), (a0, .inl (c0, 32, .inl (fun _ => 0))), (a1, .inl (c1, 32, .inl (fun _ => 0))), (a2, .inl (c2, 32, .inl (fun _ => 0)))] H := hP
  have hD : va_D A [(o, .inr (2, [.int 0, .int 0, .ref a0, .ref a1, .null, .null, .null, .null, .int 0, .null, .null, .null, .null, .null, .null, .null, .int 0, .int 0, .int 0])), (a0, .inl (c0, 32, .inl (fun _ => 0))), (a1, .inl (c1, 32, .inl (fun _ => 0))), (a2, .inl (c2, 32, .inl (fun _ => 0)))] := hD
  refine va_putF (D := D) (ci := 2) (v := .ref a2) (ty := tyX3 4) (C := RX3) (T := TX3) (N := 19) hx hb hts hinM tyX3 tyX3_ok nmX3 hown hK hP hD hS 0 rfl rfl 4 (by decide) (hts _ (List.mem_cons_of_mem _ k3_f16)) (fun _ h9 => h9) rfl hin rfl (by decide +kernel) rfl rfl (Nat.le_of_ble_eq_true rfl) dX3_init_25 (fun H locs hP hD hS => ?_)
  have hP : va_P D vwCl [(o, .inr (2, [.int 0, .int 0, .ref a0, .ref a1, .ref a2, .null, .null, .null, .int 0, .null, .null, .null, .null, .null, .null, .null, .int 0, .int 0, .int 0])), (a0, .inl (c0, 32, .inl (fun _ => 0))), (a1, .inl (c1, 32, .inl (fun _ => 0))), (a2, .inl (c2, 32, .inl (fun _ => 0)))] H := hP
  have hD : va_D A [(o, .inr (2, [.int 0, .int 0, .ref a0, .ref a1, .ref a2, .null, .null, .null, .int 0, .null, .null, .null, .null, .null, .null, .null, .int 0, .int 0, .int 0])), (a0, .inl (c0, 32, .inl (fun _ => 0))), (a1, .inl (c1, 32, .inl (fun _ => 0))), (a2, .inl (c2, 32, .inl (fun _ => 0)))] := hD
  refine W.widen (k := 3) (n := 96) (Nat.le_of_ble_eq_true rfl) (Nat.le_of_ble_eq_true rfl) ?_
  refine lv_aload_n hx hb dX3_init_28 rfl (lv_at hl 0 rfl) ?_
  refine lv_bipush (v := 32) hx hb dX3_init_29 (by decide) ?_
  refine va_newa (atype := .int) (ty := .int) (a0 := (32, .inl (fun _ => 0))) hx hb (hts _ (List.mem_cons_of_mem _ k3_ai)) rfl hK hP hD hS hA (fun _ => rfl) (n := 32) (N' := 32) (by decide) (by decide) (by decide) (Nat.le_of_ble_eq_true rfl) (Nat.le_of_ble_eq_true rfl) dX3_init_31 (fun a3 c3 H hK hP hD hS => ?_)
  have hK : va_K D vwCl [(c0, .int), (c1, .int), (c2, .int), (c3, .int)] s := hK
  have hP : va_P D vwCl [(o, .inr (2, [.int 0, .int 0, .ref a0, .ref a1, .ref a2, .null, .null, .null, .int 0, .null, .null, .null, .null, .null, .null, .null, .int 0, .int 0, .int 0])), (a0, .inl (c0, 32, .inl (fun _ => 0))), (a1, .inl (c1, 32, .inl (fun _ => 0))), (a2, .inl (c2, 32, .inl (fun _ => 0))), (a3, .inl (c3, 32, .inl (fun _ => 0)))] H := hP
  have hD : va_D A [(o, .inr (2, [.int 0, .int 0, .ref a0, .ref a1, .ref a2, .null, .null, .null, .int 0, .null, .null, .null, .null, .null, .null, .null, .int 0, .int 0, .int 0])), (a0, .inl (c0, 32, .inl (fun _ => 0))), (a1, .inl (c1, 32, .inl (fun _ => 0))), (a2, .inl (c2, 32, .inl (fun _ => 0))), (a3, .inl (c3, 32, .inl (fun _ => 0)))] := hD
  refine va_putF (D := D) (ci := 2) (v := .ref a3) (ty := tyX3 5) (C := RX3) (T := TX3) (N := 19) hx hb hts hinM tyX3 tyX3_ok nmX3 hown hK hP hD hS 0 rfl rfl 5 (by decide) (hts _ (List.mem_cons_of_mem _ k3_f19)) (fun _ h9 => h9) rfl hin rfl (by decide +kernel) rfl rfl (Nat.le_of_ble_eq_true rfl) dX3_init_33 (fun H locs hP hD hS => ?_)
  have hP : va_P D vwCl [(o, .inr (2, [.int 0, .int 0, .ref a0, .ref a1, .ref a2, .ref a3, .null, .null, .int 0, .null, .null, .null, .null, .null, .null, .null, .int 0, .int 0, .int 0])), (a0, .inl (c0, 32, .inl (fun _ => 0))), (a1, .inl (c1, 32, .inl (fun _ => 0))), (a2, .inl (c2, 32, .inl (fun _ => 0))), (a3, .inl (c3, 32, .inl (fun _ => 0)))] H := hP
  have hD : va_D A [(o, .inr (2, [.int 0, .int 0, .ref a0, .ref a1, .ref a2, .ref a3, .null, .null, .int 0, .null, .null, .null, .null, .null, .null, .null, .int 0, .int 0, .int 0])), (a0, .inl (c0, 32, .inl (fun _ => 0))), (a1, .inl (c1, 32, .inl (fun _ => 0))), (a2, .inl (c2, 32, .inl (fun _ => 0))), (a3, .inl (c3, 32, .inl (fun _ => 0)))] := hD
  refine W.widen (k := 4) (n := 128) (Nat.le_of_ble_eq_true rfl) (Nat.le_of_ble_eq_true rfl) ?_
  refine lv_aload_n hx hb dX3_init_36 rfl (lv_at hl 0 rfl) ?_
  refine lv_bipush (v := 32) hx hb dX3_init_37 (by decide) ?_
  refine va_newa (atype := .int) (ty := .int) (a0 := (32, .inl (fun _ => 0))) hx hb (hts _ (List.mem_cons_of_mem _ k3_ai)) rfl hK hP hD hS hA (fun _ => rfl) (n := 32) (N' := 32) (by decide) (by decide) (by decide) (Nat.le_of_ble_eq_true rfl) (Nat.le_of_ble_eq_true rfl) dX3_init_39 (fun a4 c4 H hK hP hD hS => ?_)
  have hK : va_K D vwCl [(c0, .int), (c1, .int), (c2, .int), (c3, .int), (c4, .int)] s := hK
  have hP : va_P D vwCl [(o, .inr (2, [.int 0, .int 0, .ref a0, .ref a1, .ref a2, .ref a3, .null, .null, .int 0, .null, .null, .null, .null, .null, .null, .null, .int 0, .int 0, .int 0])), (a0, .inl (c0, 32, .inl (fun _ => 0))), (a1, .inl (c1, 32, .inl (fun _ => 0))), (a2, .inl (c2, 32, .inl (fun _ => 0))), (a3, .inl (c3, 32, .inl (fun _ => 0))), (a4, .inl (c4, 32, .inl (fun _ => 0)))] H := hP
  have hD : va_D A [(o, .inr (2, [.int 0, .int 0, .ref a0, .ref a1, .ref a2, .ref a3, .null, .null, .int 0, .null, .null, .null, .null, .null, .null, .null, .int 0, .int 0, .int 0])), (a0, .inl (c0, 32, .inl (fun _ => 0))), (a1, .inl (c1, 32, .inl (fun _ => 0))), (a2, .inl (c2, 32, .inl (fun _ => 0))), (a3, .inl (c3, 32, .inl (fun _ => 0))), (a4, .inl (c4, 32, .inl (fun _ => 0)))] := hD
  refine va_putF (D := D) (ci := 2) (v := .ref a4) (ty := tyX3 6) (C := RX3) (T := TX3) (N := 19) hx hb hts hinM tyX3 tyX3_ok nmX3 hown hK hP hD hS 0 rfl rfl 6 (by decide) (hts _ (List.mem_cons_of_mem _ k3_f22)) (fun _ h9 => h9) rfl hin rfl (by decide +kernel) rfl rfl (Nat.le_of_ble_eq_true rfl) dX3_init_41 (fun H locs hP hD hS => ?_)
  have hP : va_P D vwCl [(o, .inr (2, [.int 0, .int 0, .ref a0, .ref a1, .ref a2, .ref a3, .ref a4, .null, .int 0, .null, .null, .null, .null, .null, .null, .null, .int 0, .int 0, .int 0])), (a0, .inl (c0, 32, .inl (fun _ => 0))), (a1, .inl (c1, 32, .inl (fun _ => 0))), (a2, .inl (c2, 32, .inl (fun _ => 0))), (a3, .inl (c3, 32, .inl (fun _ => 0))), (a4, .inl (c4, 32, .inl (fun _ => 0)))] H := hP
  have hD : va_D A [(o, .inr (2, [.int 0, .int 0, .ref a0, .ref a1, .ref a2, .ref a3, .ref a4, .null, .int 0, .null, .null, .null, .null, .null, .null, .null, .int 0, .int 0, .int 0])), (a0, .inl (c0, 32, .inl (fun _ => 0))), (a1, .inl (c1, 32, .inl (fun _ => 0))), (a2, .inl (c2, 32, .inl (fun _ => 0))), (a3, .inl (c3, 32, .inl (fun _ => 0))), (a4, .inl (c4, 32, .inl (fun _ => 0)))] := hD
  refine W.widen (k := 5) (n := 160) (Nat.le_of_ble_eq_true rfl) (Nat.le_of_ble_eq_true rfl) ?_
  refine lv_aload_n hx hb dX3_init_44 rfl (lv_at hl 0 rfl) ?_
  refine lv_sipush (v := 1024) hx hb dX3_init_45 (by decide) ?_
  refine va_newa (atype := .boolean) (ty := .boolean) (a0 := (1024, .inl (fun _ => 0))) hx hb (hts _ (List.mem_cons_of_mem _ k3_az)) rfl hK hP hD hS hA (fun _ => rfl) (n := 1024) (N' := 1024) (by decide) (by decide) (by decide) (Nat.le_of_ble_eq_true rfl) (Nat.le_of_ble_eq_true rfl) dX3_init_48 (fun a5 c5 H hK hP hD hS => ?_)
  have hK : va_K D vwCl [(c0, .int), (c1, .int), (c2, .int), (c3, .int), (c4, .int), (c5, .boolean)] s := hK
  have hP : va_P D vwCl [(o, .inr (2, [.int 0, .int 0, .ref a0, .ref a1, .ref a2, .ref a3, .ref a4, .null, .int 0, .null, .null, .null, .null, .null, .null, .null, .int 0, .int 0, .int 0])), (a0, .inl (c0, 32, .inl (fun _ => 0))), (a1, .inl (c1, 32, .inl (fun _ => 0))), (a2, .inl (c2, 32, .inl (fun _ => 0))), (a3, .inl (c3, 32, .inl (fun _ => 0))), (a4, .inl (c4, 32, .inl (fun _ => 0))), (a5, .inl (c5, 1024, .inl (fun _ => 0)))] H := hP
  have hD : va_D A [(o, .inr (2, [.int 0, .int 0, .ref a0, .ref a1, .ref a2, .ref a3, .ref a4, .null, .int 0, .null, .null, .null, .null, .null, .null, .null, .int 0, .int 0, .int 0])), (a0, .inl (c0, 32, .inl (fun _ => 0))), (a1, .inl (c1, 32, .inl (fun _ => 0))), (a2, .inl (c2, 32, .inl (fun _ => 0))), (a3, .inl (c3, 32, .inl (fun _ => 0))), (a4, .inl (c4, 32, .inl (fun _ => 0))), (a5, .inl (c5, 1024, .inl (fun _ => 0)))] := hD
  refine va_putF (D := D) (ci := 2) (v := .ref a5) (ty := tyX3 7) (C := RX3) (T := TX3) (N := 19) hx hb hts hinM tyX3 tyX3_ok nmX3 hown hK hP hD hS 0 rfl rfl 7 (by decide) (hts _ (List.mem_cons_of_mem _ k3_f25)) (fun _ h9 => h9) rfl hin rfl (by decide +kernel) rfl rfl (Nat.le_of_ble_eq_true rfl) dX3_init_50 (fun H locs hP hD hS => ?_)
  have hP : va_P D vwCl [(o, .inr (2, [.int 0, .int 0, .ref a0, .ref a1, .ref a2, .ref a3, .ref a4, .ref a5, .int 0, .null, .null, .null, .null, .null, .null, .null, .int 0, .int 0, .int 0])), (a0, .inl (c0, 32, .inl (fun _ => 0))), (a1, .inl (c1, 32, .inl (fun _ => 0))), (a2, .inl (c2, 32, .inl (fun _ => 0))), (a3, .inl (c3, 32, .inl (fun _ => 0))), (a4, .inl (c4, 32, .inl (fun _ => 0))), (a5, .inl (c5, 1024, .inl (fun _ => 0)))] H := hP
  have hD : va_D A [(o, .inr (2, [.int 0, .int 0, .ref a0, .ref a1, .ref a2, .ref a3, .ref a4, .ref a5, .int 0, .null, .null, .null, .null, .null, .null, .null, .int 0, .int 0, .int 0])), (a0, .inl (c0, 32, .inl (fun _ => 0))), (a1, .inl (c1, 32, .inl (fun _ => 0))), (a2, .inl (c2, 32, .inl (fun _ => 0))), (a3, .inl (c3, 32, .inl (fun _ => 0))), (a4, .inl (c4, 32, .inl (fun _ => 0))), (a5, .inl (c5, 1024, .inl (fun _ => 0)))] := hD
  refine W.widen (k := 6) (n := 1184) (Nat.le_of_ble_eq_true rfl) (Nat.le_of_ble_eq_true rfl) ?_
  refine lv_aload_n hx hb dX3_init_53 rfl (lv_at hl 0 rfl) ?_
  refine lv_bipush (v := 32) hx hb dX3_init_54 (by decide) ?_
  refine va_newa (atype := .int) (ty := .int) (a0 := (32, .inl (fun _ => 0))) hx hb (hts _ (List.mem_cons_of_mem _ k3_ai)) rfl hK hP hD hS hA (fun _ => rfl) (n := 32) (N' := 32) (by decide) (by decide) (by decide) (Nat.le_of_ble_eq_true rfl) (Nat.le_of_ble_eq_true rfl) dX3_init_56 (fun a6 c6 H hK hP hD hS => ?_)
  have hK : va_K D vwCl [(c0, .int), (c1, .int), (c2, .int), (c3, .int), (c4, .int), (c5, .boolean), (c6, .int)] s := hK
  have hP : va_P D vwCl [(o, .inr (2, [.int 0, .int 0, .ref a0, .ref a1, .ref a2, .ref a3, .ref a4, .ref a5, .int 0, .null, .null, .null, .null, .null, .null, .null, .int 0, .int 0, .int 0])), (a0, .inl (c0, 32, .inl (fun _ => 0))), (a1, .inl (c1, 32, .inl (fun _ => 0))), (a2, .inl (c2, 32, .inl (fun _ => 0))), (a3, .inl (c3, 32, .inl (fun _ => 0))), (a4, .inl (c4, 32, .inl (fun _ => 0))), (a5, .inl (c5, 1024, .inl (fun _ => 0))), (a6, .inl (c6, 32, .inl (fun _ => 0)))] H := hP
  have hD : va_D A [(o, .inr (2, [.int 0, .int 0, .ref a0, .ref a1, .ref a2, .ref a3, .ref a4, .ref a5, .int 0, .null, .null, .null, .null, .null, .null, .null, .int 0, .int 0, .int 0])), (a0, .inl (c0, 32, .inl (fun _ => 0))), (a1, .inl (c1, 32, .inl (fun _ => 0))), (a2, .inl (c2, 32, .inl (fun _ => 0))), (a3, .inl (c3, 32, .inl (fun _ => 0))), (a4, .inl (c4, 32, .inl (fun _ => 0))), (a5, .inl (c5, 1024, .inl (fun _ => 0))), (a6, .inl (c6, 32, .inl (fun _ => 0)))] := hD
  refine va_putF (D := D) (ci := 2) (v := .ref a6) (ty := tyX3 9) (C := RX3) (T := TX3) (N := 19) hx hb hts hinM tyX3 tyX3_ok nmX3 hown hK hP hD hS 0 rfl rfl 9 (by decide) (hts _ (List.mem_cons_of_mem _ k3_f29)) (fun _ h9 => h9) rfl hin rfl (by decide +kernel) rfl rfl (Nat.le_of_ble_eq_true rfl) dX3_init_58 (fun H locs hP hD hS => ?_)
  have hP : va_P D vwCl [(o, .inr (2, [.int 0, .int 0, .ref a0, .ref a1, .ref a2, .ref a3, .ref a4, .ref a5, .int 0, .ref a6, .null, .null, .null, .null, .null, .null, .int 0, .int 0, .int 0])), (a0, .inl (c0, 32, .inl (fun _ => 0))), (a1, .inl (c1, 32, .inl (fun _ => 0))), (a2, .inl (c2, 32, .inl (fun _ => 0))), (a3, .inl (c3, 32, .inl (fun _ => 0))), (a4, .inl (c4, 32, .inl (fun _ => 0))), (a5, .inl (c5, 1024, .inl (fun _ => 0))), (a6, .inl (c6, 32, .inl (fun _ => 0)))] H := hP
  have hD : va_D A [(o, .inr (2, [.int 0, .int 0, .ref a0, .ref a1, .ref a2, .ref a3, .ref a4, .ref a5, .int 0, .ref a6, .null, .null, .null, .null, .null, .null, .int 0, .int 0, .int 0])), (a0, .inl (c0, 32, .inl (fun _ => 0))), (a1, .inl (c1, 32, .inl (fun _ => 0))), (a2, .inl (c2, 32, .inl (fun _ => 0))), (a3, .inl (c3, 32, .inl (fun _ => 0))), (a4, .inl (c4, 32, .inl (fun _ => 0))), (a5, .inl (c5, 1024, .inl (fun _ => 0))), (a6, .inl (c6, 32, .inl (fun _ => 0)))] := hD
  refine W.widen (k := 7) (n := 1216) (Nat.le_of_ble_eq_true rfl) (Nat.le_of_ble_eq_true rfl) ?_
  refine lv_aload_n hx hb dX3_init_61 rfl (lv_at hl 0 rfl) ?_
  refine lv_bipush (v := 32) hx hb dX3_init_62 (by decide) ?_
  refine va_newa (atype := .int) (ty := .int) (a0 := (32, .inl (fun _ => 0))) hx hb (hts _ (List.mem_cons_of_mem _ k3_ai)) rfl hK hP hD hS hA (fun _ => rfl) (n := 32) (N' := 32) (by decide) (by decide) (by decide) (Nat.le_of_ble_eq_true rfl) (Nat.le_of_ble_eq_true rfl) dX3_init_64 (fun a7 c7 H hK hP hD hS => ?_)
  have hK : va_K D vwCl [(c0, .int), (c1, .int), (c2, .int), (c3, .int), (c4, .int), (c5, .boolean), (c6, .int), (c7, .int)] s := hK
  have hP : va_P D vwCl [(o, .inr (2, [.int 0, .int 0, .ref a0, .ref a1, .ref a2, .ref a3, .ref a4, .ref a5, .int 0, .ref a6, .null, .null, .null, .null, .null, .null, .int 0, .int 0, .int 0])), (a0, .inl (c0, 32, .inl (fun _ => 0))), (a1, .inl (c1, 32, .inl (fun _ => 0))), (a2, .inl (c2, 32, .inl (fun _ => 0))), (a3, .inl (c3, 32, .inl (fun _ => 0))), (a4, .inl (c4, 32, .inl (fun _ => 0))), (a5, .inl (c5, 1024, .inl (fun _ => 0))), (a6, .inl (c6, 32, .inl (fun _ => 0))), (a7, .inl (c7, 32, .inl (fun _ => 0)))] H := hP
  have hD : va_D A [(o, .inr (2, [.int 0, .int 0, .ref a0, .ref a1, .ref a2, .ref a3, .ref a4, .ref a5, .int 0, .ref a6, .null, .null, .null, .null, .null, .null, .int 0, .int 0, .int 0])), (a0, .inl (c0, 32, .inl (fun _ => 0))), (a1, .inl (c1, 32, .inl (fun _ => 0))), (a2, .inl (c2, 32, .inl (fun _ => 0))), (a3, .inl (c3, 32, .inl (fun _ => 0))), (a4, .inl (c4, 32, .inl (fun _ => 0))), (a5, .inl (c5, 1024, .inl (fun _ => 0))), (a6, .inl (c6, 32, .inl (fun _ => 0))), (a7, .inl (c7, 32, .inl (fun _ => 0)))] := hD
  refine va_putF (D := D) (ci := 2) (v := .ref a7) (ty := tyX3 10) (C := RX3) (T := TX3) (N := 19) hx hb hts hinM tyX3 tyX3_ok nmX3 hown hK hP hD hS 0 rfl rfl 10 (by decide) (hts _ (List.mem_cons_of_mem _ k3_f32)) (fun _ h9 => h9) rfl hin rfl (by decide +kernel) rfl rfl (Nat.le_of_ble_eq_true rfl) dX3_init_66 (fun H locs hP hD hS => ?_)
  have hP : va_P D vwCl [(o, .inr (2, [.int 0, .int 0, .ref a0, .ref a1, .ref a2, .ref a3, .ref a4, .ref a5, .int 0, .ref a6, .ref a7, .null, .null, .null, .null, .null, .int 0, .int 0, .int 0])), (a0, .inl (c0, 32, .inl (fun _ => 0))), (a1, .inl (c1, 32, .inl (fun _ => 0))), (a2, .inl (c2, 32, .inl (fun _ => 0))), (a3, .inl (c3, 32, .inl (fun _ => 0))), (a4, .inl (c4, 32, .inl (fun _ => 0))), (a5, .inl (c5, 1024, .inl (fun _ => 0))), (a6, .inl (c6, 32, .inl (fun _ => 0))), (a7, .inl (c7, 32, .inl (fun _ => 0)))] H := hP
  have hD : va_D A [(o, .inr (2, [.int 0, .int 0, .ref a0, .ref a1, .ref a2, .ref a3, .ref a4, .ref a5, .int 0, .ref a6, .ref a7, .null, .null, .null, .null, .null, .int 0, .int 0, .int 0])), (a0, .inl (c0, 32, .inl (fun _ => 0))), (a1, .inl (c1, 32, .inl (fun _ => 0))), (a2, .inl (c2, 32, .inl (fun _ => 0))), (a3, .inl (c3, 32, .inl (fun _ => 0))), (a4, .inl (c4, 32, .inl (fun _ => 0))), (a5, .inl (c5, 1024, .inl (fun _ => 0))), (a6, .inl (c6, 32, .inl (fun _ => 0))), (a7, .inl (c7, 32, .inl (fun _ => 0)))] := hD
  refine W.widen (k := 8) (n := 1248) (Nat.le_of_ble_eq_true rfl) (Nat.le_of_ble_eq_true rfl) ?_
  refine lv_aload_n hx hb dX3_init_69 rfl (lv_at hl 0 rfl) ?_
  refine lv_bipush (v := 32) hx hb dX3_init_70 (by decide) ?_
  refine va_newa (atype := .int) (ty := .int) (a0 := (32, .inl (fun _ => 0))) hx hb (hts _ (List.mem_cons_of_mem _ k3_ai)) rfl hK hP hD hS hA (fun _ => rfl) (n := 32) (N' := 32) (by decide) (by decide) (by decide) (Nat.le_of_ble_eq_true rfl) (Nat.le_of_ble_eq_true rfl) dX3_init_72 (fun a8 c8 H hK hP hD hS => ?_)
  have hK : va_K D vwCl [(c0, .int), (c1, .int), (c2, .int), (c3, .int), (c4, .int), (c5, .boolean), (c6, .int), (c7, .int), (c8, .int)] s := hK
  have hP : va_P D vwCl [(o, .inr (2, [.int 0, .int 0, .ref a0, .ref a1, .ref a2, .ref a3, .ref a4, .ref a5, .int 0, .ref a6, .ref a7, .null, .null, .null, .null, .null, .int 0, .int 0, .int 0])), (a0, .inl (c0, 32, .inl (fun _ => 0))), (a1, .inl (c1, 32, .inl (fun _ => 0))), (a2, .inl (c2, 32, .inl (fun _ => 0))), (a3, .inl (c3, 32, .inl (fun _ => 0))), (a4, .inl (c4, 32, .inl (fun _ => 0))), (a5, .inl (c5, 1024, .inl (fun _ => 0))), (a6, .inl (c6, 32, .inl (fun _ => 0))), (a7, .inl (c7, 32, .inl (fun _ => 0))), (a8, .inl (c8, 32, .inl (fun _ => 0)))] H := hP
  have hD : va_D A [(o, .inr (2, [.int 0, .int 0, .ref a0, .ref a1, .ref a2, .ref a3, .ref a4, .ref a5, .int 0, .ref a6, .ref a7, .null, .null, .null, .null, .null, .int 0, .int 0, .int 0])), (a0, .inl (c0, 32, .inl (fun _ => 0))), (a1, .inl (c1, 32, .inl (fun _ => 0))), (a2, .inl (c2, 32, .inl (fun _ => 0))), (a3, .inl (c3, 32, .inl (fun _ => 0))), (a4, .inl (c4, 32, .inl (fun _ => 0))), (a5, .inl (c5, 1024, .inl (fun _ => 0))), (a6, .inl (c6, 32, .inl (fun _ => 0))), (a7, .inl (c7, 32, .inl (fun _ => 0))), (a8, .inl (c8, 32, .inl (fun _ => 0)))] := hD
  refine va_putF (D := D) (ci := 2) (v := .ref a8) (ty := tyX3 11) (C := RX3) (T := TX3) (N := 19) hx hb hts hinM tyX3 tyX3_ok nmX3 hown hK hP hD hS 0 rfl rfl 11 (by decide) (hts _ (List.mem_cons_of_mem _ k3_f35)) (fun _ h9 => h9) rfl hin rfl (by decide +kernel) rfl rfl (Nat.le_of_ble_eq_true rfl) dX3_init_74 (fun H locs hP hD hS => ?_)
  have hP : va_P D vwCl [(o, .inr (2, [.int 0, .int 0, .ref a0, .ref a1, .ref a2, .ref a3, .ref a4, .ref a5, .int 0, .ref a6, .ref a7, .ref a8, .null, .null, .null, .null, .int 0, .int 0, .int 0])), (a0, .inl (c0, 32, .inl (fun _ => 0))), (a1, .inl (c1, 32, .inl (fun _ => 0))), (a2, .inl (c2, 32, .inl (fun _ => 0))), (a3, .inl (c3, 32, .inl (fun _ => 0))), (a4, .inl (c4, 32, .inl (fun _ => 0))), (a5, .inl (c5, 1024, .inl (fun _ => 0))), (a6, .inl (c6, 32, .inl (fun _ => 0))), (a7, .inl (c7, 32, .inl (fun _ => 0))), (a8, .inl (c8, 32, .inl (fun _ => 0)))] H := hP
  have hD : va_D A [(o, .inr (2, [.int 0, .int 0, .ref a0, .ref a1, .ref a2, .ref a3, .ref a4, .ref a5, .int 0, .ref a6, .ref a7, .ref a8, .null, .null, .null, .null, .int 0, .int 0, .int 0])), (a0, .inl (c0, 32, .inl (fun _ => 0))), (a1, .inl (c1, 32, .inl (fun _ => 0))), (a2, .inl (c2, 32, .inl (fun _ => 0))), (a3, .inl (c3, 32, .inl (fun _ => 0))), (a4, .inl (c4, 32, .inl (fun _ => 0))), (a5, .inl (c5, 1024, .inl (fun _ => 0))), (a6, .inl (c6, 32, .inl (fun _ => 0))), (a7, .inl (c7, 32, .inl (fun _ => 0))), (a8, .inl (c8, 32, .inl (fun _ => 0)))] := hD
  refine W.widen (k := 9) (n := 1280) (Nat.le_of_ble_eq_true rfl) (Nat.le_of_ble_eq_true rfl) ?_
  refine lv_aload_n hx hb dX3_init_77 rfl (lv_at hl 0 rfl) ?_
  refine lv_bipush (v := 32) hx hb dX3_init_78 (by decide) ?_
  refine va_newa (atype := .int) (ty := .int) (a0 := (32, .inl (fun _ => 0))) hx hb (hts _ (List.mem_cons_of_mem _ k3_ai)) rfl hK hP hD hS hA (fun _ => rfl) (n := 32) (N' := 32) (by decide) (by decide) (by decide) (Nat.le_of_ble_eq_true rfl) (Nat.le_of_ble_eq_true rfl) dX3_init_80 (fun a9 c9 H hK hP hD hS => ?_)
  have hK : va_K D vwCl [(c0, .int), (c1, .int), (c2, .int), (c3, .int), (c4, .int), (c5, .boolean), (c6, .int), (c7, .int), (c8, .int), (c9, .int)] s := hK
  have hP : va_P D vwCl [(o, .inr (2, [.int 0, .int 0, .ref a0, .ref a1, .ref a2, .ref a3, .ref a4, .ref a5, .int 0, .ref a6, .ref a7, .ref a8, .null, .null, .null, .null, .int 0, .int 0, .int 0])), (a0, .inl (c0, 32, .inl (fun _ => 0))), (a1, .inl (c1, 32, .inl (fun _ => 0))), (a2, .inl (c2, 32, .inl (fun _ => 0))), (a3, .inl (c3, 32, .inl (fun _ => 0))), (a4, .inl (c4, 32, .inl (fun _ => 0))), (a5, .inl (c5, 1024, .inl (fun _ => 0))), (a6, .inl (c6, 32, .inl (fun _ => 0))), (a7, .inl (c7, 32, .inl (fun _ => 0))), (a8, .inl (c8, 32, .inl (fun _ => 0))), (a9, .inl (c9, 32, .inl (fun _ => 0)))] H := hP
  have hD : va_D A [(o, .inr (2, [.int 0, .int 0, .ref a0, .ref a1, .ref a2, .ref a3, .ref a4, .ref a5, .int 0, .ref a6, .ref a7, .ref a8, .null, .null, .null, .null, .int 0, .int 0, .int 0])), (a0, .inl (c0, 32, .inl (fun _ => 0))), (a1, .inl (c1, 32, .inl (fun _ => 0))), (a2, .inl (c2, 32, .inl (fun _ => 0))), (a3, .inl (c3, 32, .inl (fun _ => 0))), (a4, .inl (c4, 32, .inl (fun _ => 0))), (a5, .inl (c5, 1024, .inl (fun _ => 0))), (a6, .inl (c6, 32, .inl (fun _ => 0))), (a7, .inl (c7, 32, .inl (fun _ => 0))), (a8, .inl (c8, 32, .inl (fun _ => 0))), (a9, .inl (c9, 32, .inl (fun _ => 0)))] := hD
  refine va_putF (D := D) (ci := 2) (v := .ref a9) (ty := tyX3 12) (C := RX3) (T := TX3) (N := 19) hx hb hts hinM tyX3 tyX3_ok nmX3 hown hK hP hD hS 0 rfl rfl 12 (by decide) (hts _ (List.mem_cons_of_mem _ k3_f38)) (fun _ h9 => h9) rfl hin rfl (by decide +kernel) rfl rfl (Nat.le_of_ble_eq_true rfl) dX3_init_82 (fun H locs hP hD hS => ?_)
  have hP : va_P D vwCl [(o, .inr (2, [.int 0, .int 0, .ref a0, .ref a1, .ref a2, .ref a3, .ref a4, .ref a5, .int 0, .ref a6, .ref a7, .ref a8, .ref a9, .null, .null, .null, .int 0, .int 0, .int 0])), (a0, .inl (c0, 32, .inl (fun _ => 0))), (a1, .inl (c1, 32, .inl (fun _ => 0))), (a2, .inl (c2, 32, .inl (fun _ => 0))), (a3, .inl (c3, 32, .inl (fun _ => 0))), (a4, .inl (c4, 32, .inl (fun _ => 0))), (a5, .inl (c5, 1024, .inl (fun _ => 0))), (a6, .inl (c6, 32, .inl (fun _ => 0))), (a7, .inl (c7, 32, .inl (fun _ => 0))), (a8, .inl (c8, 32, .inl (fun _ => 0))), (a9, .inl (c9, 32, .inl (fun _ => 0)))] H := hP
  have hD : va_D A [(o, .inr (2, [.int 0, .int 0, .ref a0, .ref a1, .ref a2, .ref a3, .ref a4, .ref a5, .int 0, .ref a6, .ref a7, .ref a8, .ref a9, .null, .null, .null, .int 0, .int 0, .int 0])), (a0, .inl (c0, 32, .inl (fun _ => 0))), (a1, .inl (c1, 32, .inl (fun _ => 0))), (a2, .inl (c2, 32, .inl (fun _ => 0))), (a3, .inl (c3, 32, .inl (fun _ => 0))), (a4, .inl (c4, 32, .inl (fun _ => 0))), (a5, .inl (c5, 1024, .inl (fun _ => 0))), (a6, .inl (c6, 32, .inl (fun _ => 0))), (a7, .inl (c7, 32, .inl (fun _ => 0))), (a8, .inl (c8, 32, .inl (fun _ => 0))), (a9, .inl (c9, 32, .inl (fun _ => 0)))] := hD
  refine W.widen (k := 10) (n := 1312) (Nat.le_of_ble_eq_true rfl) (Nat.le_of_ble_eq_true rfl) ?_
  refine lv_aload_n hx hb dX3_init_85 rfl (lv_at hl 0 rfl) ?_
  refine lv_bipush (v := 32) hx hb dX3_init_86 (by decide) ?_
  refine va_newa (atype := .int) (ty := .int) (a0 := (32, .inl (fun _ => 0))) hx hb (hts _ (List.mem_cons_of_mem _ k3_ai)) rfl hK hP hD hS hA (fun _ => rfl) (n := 32) (N' := 32) (by decide) (by decide) (by decide) (Nat.le_of_ble_eq_true rfl) (Nat.le_of_ble_eq_true rfl) dX3_init_88 (fun a10 c10 H hK hP hD hS => ?_)
  have hK : va_K D vwCl [(c0, .int), (c1, .int), (c2, .int), (c3, .int), (c4, .int), (c5, .boolean), (c6, .int), (c7, .int), (c8, .int), (c9, .int), (c10, .int)] s := hK
  have hP : va_P D vwCl [(o, .inr (2, [.int 0, .int 0, .ref a0, .ref a1, .ref a2, .ref a3, .ref a4, .ref a5, .int 0, .ref a6, .ref a7, .ref a8, .ref a9, .null, .null, .null, .int 0, .int 0, .int 0])), (a0, .inl (c0, 32, .inl (fun _ => 0))), (a1, .inl (c1, 32, .inl (fun _ => 0))), (a2, .inl (c2, 32, .inl (fun _ => 0))), (a3, .inl (c3, 32, .inl (fun _ => 0))), (a4, .inl (c4, 32, .inl (fun _ => 0))), (a5, .inl (c5, 1024, .inl (fun _ => 0))), (a6, .inl (c6, 32, .inl (fun _ => 0))), (a7, .inl (c7, 32, .inl (fun _ => 0))), (a8, .inl (c8, 32, .inl (fun _ => 0))), (a9, .inl (c9, 32, .inl (fun _ => 0))), (a10, .inl (c10, 32, .inl (fun _ => 0)))] H := hP
  have hD : va_D A [(o, .inr (2, [.int 0, .int 0, .ref a0, .ref a1, .ref a2, .ref a3, .ref a4, .ref a5, .int 0, .ref a6, .ref a7, .ref a8, .ref a9, .null, .null, .null, .int 0, .int 0, .int 0])), (a0, .inl (c0, 32, .inl (fun _ => 0))), (a1, .inl (c1, 32, .inl (fun _ => 0))), (a2, .inl (c2, 32, .inl (fun _ => 0))), (a3, .inl (c3, 32, .inl (fun _ => 0))), (a4, .inl (c4, 32, .inl (fun _ => 0))), (a5, .inl (c5, 1024, .inl (fun _ => 0))), (a6, .inl (c6, 32, .inl (fun _ => 0))), (a7, .inl (c7, 32, .inl (fun _ => 0))), (a8, .inl (c8, 32, .inl (fun _ => 0))), (a9, .inl (c9, 32, .inl (fun _ => 0))), (a10, .inl (c10, 32, .inl (fun _ => 0)))] := hD
  refine va_putF (D := D) (ci := 2) (v := .ref a10) (ty := tyX3 13) (C := RX3) (T := TX3) (N := 19) hx hb hts hinM tyX3 tyX3_ok nmX3 hown hK hP hD hS 0 rfl rfl 13 (by decide) (hts _ (List.mem_cons_of_mem _ k3_f41)) (fun _ h9 => h9) rfl hin rfl (by decide +kernel) rfl rfl (Nat.le_of_ble_eq_true rfl) dX3_init_90 (fun H locs hP hD hS => ?_)
  have hP : va_P D vwCl [(o, .inr (2, [.int 0, .int 0, .ref a0, .ref a1, .ref a2, .ref a3, .ref a4, .ref a5, .int 0, .ref a6, .ref a7, .ref a8, .ref a9, .ref a10, .null, .null, .int 0, .int 0, .int 0])), (a0, .inl (c0, 32, .inl (fun _ => 0))), (a1, .inl (c1, 32, .inl (fun _ => 0))), (a2, .inl (c2, 32, .inl (fun _ => 0))), (a3, .inl (c3, 32, .inl (fun _ => 0))), (a4, .inl (c4, 32, .inl (fun _ => 0))), (a5, .inl (c5, 1024, .inl (fun _ => 0))), (a6, .inl (c6, 32, .inl (fun _ => 0))), (a7, .inl (c7, 32, .inl (fun _ => 0))), (a8, .inl (c8, 32, .inl (fun _ => 0))), (a9, .inl (c9, 32, .inl (fun _ => 0))), (a10, .inl (c10, 32, .inl (fun _ => 0)))] H := hP
  have hD : va_D A [(o, .inr (2, [.int 0, .int 0, .ref a0, .ref a1, .ref a2, .ref a3, .ref a4, .ref a5, .int 0, .ref a6, .ref a7, .ref a8, .ref a9, .ref a10, .null, .null, .int 0, .int 0, .int 0])), (a0, .inl (c0, 32, .inl (fun _ => 0))), (a1, .inl (c1, 32, .inl (fun _ => 0))), (a2, .inl (c2, 32, .inl (fun _ => 0))), (a3, .inl (c3, 32, .inl (fun _ => 0))), (a4, .inl (c4, 32, .inl (fun _ => 0))), (a5, .inl (c5, 1024, .inl (fun _ => 0))), (a6, .inl (c6, 32, .inl (fun _ => 0))), (a7, .inl (c7, 32, .inl (fun _ => 0))), (a8, .inl (c8, 32, .inl (fun _ => 0))), (a9, .inl (c9, 32, .inl (fun _ => 0))), (a10, .inl (c10, 32, .inl (fun _ => 0)))] := hD
  refine W.widen (k := 11) (n := 1344) (Nat.le_of_ble_eq_true rfl) (Nat.le_of_ble_eq_true rfl) ?_
  refine lv_aload_n hx hb dX3_init_93 rfl (lv_at hl 0 rfl) ?_
  refine lv_bipush (v := 32) hx hb dX3_init_94 (by decide) ?_
  refine va_newa (atype := .int) (ty := .int) (a0 := (32, .inl (fun _ => 0))) hx hb (hts _ (List.mem_cons_of_mem _ k3_ai)) rfl hK hP hD hS hA (fun _ => rfl) (n := 32) (N' := 32) (by decide) (by decide) (by decide) (Nat.le_of_ble_eq_true rfl) (Nat.le_of_ble_eq_true rfl) dX3_init_96 (fun a11 c11 H hK hP hD hS => ?_)
  have hK : va_K D vwCl [(c0, .int), (c1, .int), (c2, .int), (c3, .int), (c4, .int), (c5, .boolean), (c6, .int), (c7, .int), (c8, .int), (c9, .int), (c10, .int), (c11, .int)] s := hK
  have hP : va_P D vwCl [(o, .inr (2, [.int 0, .int 0, .ref a0, .ref a1, .ref a2, .ref a3, .ref a4, .ref a5, .int 0, .ref a6, .ref a7, .ref a8, .ref a9, .ref a10, .null, .null, .int 0, .int 0, .int 0])), (a0, .inl (c0, 32, .inl (fun _ => 0))), (a1, .inl (c1, 32, .inl (fun _ => 0))), (a2, .inl (c2, 32, .inl (fun _ => 0))), (a3, .inl (c3, 32, .inl (fun _ => 0))), (a4, .inl (c4, 32, .inl (fun _ => 0))), (a5, .inl (c5, 1024, .inl (fun _ => 0))), (a6, .inl (c6, 32, .inl (fun _ => 0))), (a7, .inl (c7, 32, .inl (fun _ => 0))), (a8, .inl (c8, 32, .inl (fun _ => 0))), (a9, .inl (c9, 32, .inl (fun _ => 0))), (a10, .inl (c10, 32, .inl (fun _ => 0))), (a11, .inl (c11, 32, .inl (fun _ => 0)))] H := hP
  have hD : va_D A [(o, .inr (2, [.int 0, .int 0, .ref a0, .ref a1, .ref a2, .ref a3, .ref a4, .ref a5, .int 0, .ref a6, .ref a7, .ref a8, .ref a9, .ref a10, .null, .null, .int 0, .int 0, .int 0])), (a0, .inl (c0, 32, .inl (fun _ => 0))), (a1, .inl (c1, 32, .inl (fun _ => 0))), (a2, .inl (c2, 32, .inl (fun _ => 0))), (a3, .inl (c3, 32, .inl (fun _ => 0))), (a4, .inl (c4, 32, .inl (fun _ => 0))), (a5, .inl (c5, 1024, .inl (fun _ => 0))), (a6, .inl (c6, 32, .inl (fun _ => 0))), (a7, .inl (c7, 32, .inl (fun _ => 0))), (a8, .inl (c8, 32, .inl (fun _ => 0))), (a9, .inl (c9, 32, .inl (fun _ => 0))), (a10, .inl (c10, 32, .inl (fun _ => 0))), (a11, .inl (c11, 32, .inl (fun _ => 0)))] := hD
  refine va_putF (D := D) (ci := 2) (v := .ref a11) (ty := tyX3 14) (C := RX3) (T := TX3) (N := 19) hx hb hts hinM tyX3 tyX3_ok nmX3 hown hK hP hD hS 0 rfl rfl 14 (by decide) (hts _ (List.mem_cons_of_mem _ k3_f44)) (fun _ h9 => h9) rfl hin rfl (by decide +kernel) rfl rfl (Nat.le_of_ble_eq_true rfl) dX3_init_98 (fun H locs hP hD hS => ?_)
  have hP : va_P D vwCl [(o, .inr (2, [.int 0, .int 0, .ref a0, .ref a1, .ref a2, .ref a3, .ref a4, .ref a5, .int 0, .ref a6, .ref a7, .ref a8, .ref a9, .ref a10, .ref a11, .null, .int 0, .int 0, .int 0])), (a0, .inl (c0, 32, .inl (fun _ => 0))), (a1, .inl (c1, 32, .inl (fun _ => 0))), (a2, .inl (c2, 32, .inl (fun _ => 0))), (a3, .inl (c3, 32, .inl (fun _ => 0))), (a4, .inl (c4, 32, .inl (fun _ => 0))), (a5, .inl (c5, 1024, .inl (fun _ => 0))), (a6, .inl (c6, 32, .inl (fun _ => 0))), (a7, .inl (c7, 32, .inl (fun _ => 0))), (a8, .inl (c8, 32, .inl (fun _ => 0))), (a9, .inl (c9, 32, .inl (fun _ => 0))), (a10, .inl (c10, 32, .inl (fun _ => 0))), (a11, .inl (c11, 32, .inl (fun _ => 0)))] H := hP
  have hD : va_D A [(o, .inr (2, [.int 0, .int 0, .ref a0, .ref a1, .ref a2, .ref a3, .ref a4, .ref a5, .int 0, .ref a6, .ref a7, .ref a8, .ref a9, .ref a10, .ref a11, .null, .int 0, .int 0, .int 0])), (a0, .inl (c0, 32, .inl (fun _ => 0))), (a1, .inl (c1, 32, .inl (fun _ => 0))), (a2, .inl (c2, 32, .inl (fun _ => 0))), (a3, .inl (c3, 32, .inl (fun _ => 0))), (a4, .inl (c4, 32, .inl (fun _ => 0))), (a5, .inl (c5, 1024, .inl (fun _ => 0))), (a6, .inl (c6, 32, .inl (fun _ => 0))), (a7, .inl (c7, 32, .inl (fun _ => 0))), (a8, .inl (c8, 32, .inl (fun _ => 0))), (a9, .inl (c9, 32, .inl (fun _ => 0))), (a10, .inl (c10, 32, .inl (fun _ => 0))), (a11, .inl (c11, 32, .inl (fun _ => 0)))] := hD
  refine W.widen (k := 12) (n := 1376) (Nat.le_of_ble_eq_true rfl) (Nat.le_of_ble_eq_true rfl) ?_
  refine lv_aload_n hx hb dX3_init_101 rfl (lv_at hl 0 rfl) ?_
  refine lv_bipush (v := 32) hx hb dX3_init_102 (by decide) ?_
  refine va_newa (atype := .int) (ty := .int) (a0 := (32, .inl (fun _ => 0))) hx hb (hts _ (List.mem_cons_of_mem _ k3_ai)) rfl hK hP hD hS hA (fun _ => rfl) (n := 32) (N' := 32) (by decide) (by decide) (by decide) (Nat.le_of_ble_eq_true rfl) (Nat.le_of_ble_eq_true rfl) dX3_init_104 (fun a12 c12 H hK hP hD hS => ?_)
  have hK : va_K D vwCl [(c0, .int), (c1, .int), (c2, .int), (c3, .int), (c4, .int), (c5, .boolean), (c6, .int), (c7, .int), (c8, .int), (c9, .int), (c10, .int), (c11, .int), (c12, .int)] s := hK
  have hP : va_P D vwCl [(o, .inr (2, [.int 0, .int 0, .ref a0, .ref a1, .ref a2, .ref a3, .ref a4, .ref a5, .int 0, .ref a6, .ref a7, .ref a8, .ref a9, .ref a10, .ref a11, .null, .int 0, .int 0, .int 0])), (a0, .inl (c0, 32, .inl (fun _ => 0))), (a1, .inl (c1, 32, .inl (fun _ => 0))), (a2, .inl (c2, 32, .inl (fun _ => 0))), (a3, .inl (c3, 32, .inl (fun _ => 0))), (a4, .inl (c4, 32, .inl (fun _ => 0))), (a5, .inl (c5, 1024, .inl (fun _ => 0))), (a6, .inl (c6, 32, .inl (fun _ => 0))), (a7, .inl (c7, 32, .inl (fun _ => 0))), (a8, .inl (c8, 32, .inl (fun _ => 0))), (a9, .inl (c9, 32, .inl (fun _ => 0))), (a10, .inl (c10, 32, .inl (fun _ => 0))), (a11, .inl (c11, 32, .inl (fun _ => 0))), (a12, .inl (c12, 32, .inl (fun _ => 0)))] H := hP
  have hD : va_D A [(o, .inr (2, [.int 0, .int 0, .ref a0, .ref a1, .ref a2, .ref a3, .ref a4, .ref a5, .int 0, .ref a6, .ref a7, .ref a8, .ref a9, .ref a10, .ref a11, .null, .int 0, .int 0, .int 0])), (a0, .inl (c0, 32, .inl (fun _ => 0))), (a1, .inl (c1, 32, .inl (fun _ => 0))), (a2, .inl (c2, 32, .inl (fun _ => 0))), (a3, .inl (c3, 32, .inl (fun _ => 0))), (a4, .inl (c4, 32, .inl (fun _ => 0))), (a5, .inl (c5, 1024, .inl (fun _ => 0))), (a6, .inl (c6, 32, .inl (fun _ => 0))), (a7, .inl (c7, 32, .inl (fun _ => 0))), (a8, .inl (c8, 32, .inl (fun _ => 0))), (a9, .inl (c9, 32, .inl (fun _ => 0))), (a10, .inl (c10, 32, .inl (fun _ => 0))), (a11, .inl (c11, 32, .inl (fun _ => 0))), (a12, .inl (c12, 32, .inl (fun _ => 0)))] := hD
  refine va_putF (D := D) (ci := 2) (v := .ref a12) (ty := tyX3 15) (C := RX3) (T := TX3) (N := 19) hx hb hts hinM tyX3 tyX3_ok nmX3 hown hK hP hD hS 0 rfl rfl 15 (by decide) (hts _ (List.mem_cons_of_mem _ k3_f47)) (fun _ h9 => h9) rfl hin rfl (by decide +kernel) rfl rfl (Nat.le_of_ble_eq_true rfl) dX3_init_106 (fun H locs hP hD hS => ?_)
  have hP : va_P D vwCl [(o, .inr (2, [.int 0, .int 0, .ref a0, .ref a1, .ref a2, .ref a3, .ref a4, .ref a5, .int 0, .ref a6, .ref a7, .ref a8, .ref a9, .ref a10, .ref a11, .ref a12, .int 0, .int 0, .int 0])), (a0, .inl (c0, 32, .inl (fun _ => 0))), (a1, .inl (c1, 32, .inl (fun _ => 0))), (a2, .inl (c2, 32, .inl (fun _ => 0))), (a3, .inl (c3, 32, .inl (fun _ => 0))), (a4, .inl (c4, 32, .inl (fun _ => 0))), (a5, .inl (c5, 1024, .inl (fun _ => 0))), (a6, .inl (c6, 32, .inl (fun _ => 0))), (a7, .inl (c7, 32, .inl (fun _ => 0))), (a8, .inl (c8, 32, .inl (fun _ => 0))), (a9, .inl (c9, 32, .inl (fun _ => 0))), (a10, .inl (c10, 32, .inl (fun _ => 0))), (a11, .inl (c11, 32, .inl (fun _ => 0))), (a12, .inl (c12, 32, .inl (fun _ => 0)))] H := hP
  have hD : va_D A [(o, .inr (2, [.int 0, .int 0, .ref a0, .ref a1, .ref a2, .ref a3, .ref a4, .ref a5, .int 0, .ref a6, .ref a7, .ref a8, .ref a9, .ref a10, .ref a11, .ref a12, .int 0, .int 0, .int 0])), (a0, .inl (c0, 32, .inl (fun _ => 0))), (a1, .inl (c1, 32, .inl (fun _ => 0))), (a2, .inl (c2, 32, .inl (fun _ => 0))), (a3, .inl (c3, 32, .inl (fun _ => 0))), (a4, .inl (c4, 32, .inl (fun _ => 0))), (a5, .inl (c5, 1024, .inl (fun _ => 0))), (a6, .inl (c6, 32, .inl (fun _ => 0))), (a7, .inl (c7, 32, .inl (fun _ => 0))), (a8, .inl (c8, 32, .inl (fun _ => 0))), (a9, .inl (c9, 32, .inl (fun _ => 0))), (a10, .inl (c10, 32, .inl (fun _ => 0))), (a11, .inl (c11, 32, .inl (fun _ => 0))), (a12, .inl (c12, 32, .inl (fun _ => 0)))] := hD
  refine W.widen (k := 13) (n := 1408) (Nat.le_of_ble_eq_true rfl) (Nat.le_of_ble_eq_true rfl) ?_
  refine lv_aload_n hx hb dX3_init_109 rfl (lv_at hl 0 rfl) ?_
  refine lv_iconst (v := (-1)) hx hb dX3_init_110 (by decide) ?_
  refine va_put (D := D) (ci := 2) (v := .int (-1)) (ty := .int) (C := RX3) (T := TX3) (N := 19) hx hb hts hinM tyX3 tyX3_ok nmX3 hown hK hP hD hS 0 rfl rfl 17 (by decide) (hts _ (List.mem_cons_of_mem _ k3_f50)) (fun _ h9 => h9) rfl (by decide +kernel) rfl rfl (Nat.le_of_ble_eq_true rfl) dX3_init_111 (fun H locs hP hD hS => ?_)
  have hP : va_P D vwCl (md_W o (fun k => match k with | 0 => a0 | 1 => a1 | 2 => a2 | 3 => a3 | 4 => a4 | 5 => a5 | 6 => a6 | 7 => a7 | 8 => a8 | 9 => a9 | 10 => a10 | 11 => a11 | _ => a12) (fun k => match k with | 0 => c0 | 1 => c1 | 2 => c2 | 3 => c3 | 4 => c4 | 5 => c5 | 6 => c6 | 7 => c7 | 8 => c8 | 9 => c9 | 10 => c10 | 11 => c11 | _ => c12) hc_G hc_S mc_B) H := hP
  have hD : va_D A (md_W o (fun k => match k with | 0 => a0 | 1 => a1 | 2 => a2 | 3 => a3 | 4 => a4 | 5 => a5 | 6 => a6 | 7 => a7 | 8 => a8 | 9 => a9 | 10 => a10 | 11 => a11 | _ => a12) (fun k => match k with | 0 => c0 | 1 => c1 | 2 => c2 | 3 => c3 | 4 => c4 | 5 => c5 | 6 => c6 | 7 => c7 | 8 => c8 | 9 => c9 | 10 => c10 | 11 => c11 | _ => c12) hc_G hc_S mc_B) := hD
  have hK : va_K D vwCl (md_tys (fun k => match k with | 0 => c0 | 1 => c1 | 2 => c2 | 3 => c3 | 4 => c4 | 5 => c5 | 6 => c6 | 7 => c7 | 8 => c8 | 9 => c9 | 10 => c10 | 11 => c11 | _ => c12)) s := hK
  exact W.vret hx hb B.returns (fun t ht hW => ⟨⟨((fun k => match k with | 0 => a0 | 1 => a1 | 2 => a2 | 3 => a3 | 4 => a4 | 5 => a5 | 6 => a6 | 7 => a7 | 8 => a8 | 9 => a9 | 10 => a10 | 11 => a11 | _ => a12), (fun k => match k with | 0 => c0 | 1 => c1 | 2 => c2 | 3 => c3 | 4 => c4 | 5 => c5 | 6 => c6 | 7 => c7 | 8 => c8 | 9 => c9 | 10 => c10 | 11 => c11 | _ => c12)), rfl, trivial, by rw [ht]; exact hP, hD, va_K.moved hW.alike hK⟩, hS.F ht⟩) hS.2.2 dX3_init_114 B.notSynchronized
end
section
/-! PURE: what the class and the reference do to the numbers is the same. -/
theorem nI_cl {i : Nat} (hi : i < 32) : (nI i).toNatClampNeg = i := nI_clamp (by omega)
theorem up2_kk {S : Nat → Nat → Int32} {i k : Nat} {v : Int32} : up2 S i k v i k = v := by simp [up2, upd]
theorem up2_kq {S : Nat → Nat → Int32} {i k q : Nat} {v : Int32} (h : q ≠ k) : up2 S i k v i q = S i q := by simp [up2, upd, h]
theorem up2_j {S : Nat → Nat → Int32} {i j k : Nat} {v : Int32} (h : j ≠ i) : up2 S i k v j = S j := by simp [up2, h]
theorem up2_id {S : Nat → Nat → Int32} {i k : Nat} {v : Int32} (h : S i k = v) : up2 S i k v = S := by
  funext j q
  by_cases hj : j = i
  · subst hj
    by_cases hq : q = k
    · subst hq
      rw [up2_kk, h]
    · rw [up2_kq hq]
  · rw [up2_j hj]
theorem up2_cc {S : Nat → Nat → Int32} {i k k2 : Nat} {v v2 : Int32} (h : k ≠ k2) : up2 (up2 S i k v) i k2 v2 = up2 (up2 S i k2 v2) i k v := by
  funext j q
  by_cases hj : j = i
  · subst hj
    by_cases h1 : q = k
    · subst h1
      rw [up2_kq h, up2_kk, up2_kk]
    · by_cases h2 : q = k2
      · subst h2
        rw [up2_kk, up2_kq h1, up2_kk]
      · rw [up2_kq h2, up2_kq h1, up2_kq h1, up2_kq h2]
  · rw [up2_j hj, up2_j hj, up2_j hj, up2_j hj]
theorem up2_uu {S : Nat → Nat → Int32} {i k : Nat} {v v2 : Int32} : up2 (up2 S i k v) i k v2 = up2 S i k v2 := by
  funext j q
  by_cases hj : j = i
  · subst hj
    by_cases h1 : q = k
    · subst h1
      rw [up2_kk, up2_kk]
    · rw [up2_kq h1, up2_kq h1, up2_kq h1]
  · rw [up2_j hj, up2_j hj, up2_j hj]
theorem upd_cc {f : Nat → Int32} {k k2 : Nat} {v v2 : Int32} (h : k ≠ k2) : upd (upd f k v) k2 v2 = upd (upd f k2 v2) k v := by
  funext q
  by_cases h1 : q = k
  · subst h1
    simp [upd, h]
  · by_cases h2 : q = k2
    · subst h2
      simp [upd, h1]
    · simp [upd, h1, h2]
theorem upd_uu {f : Nat → Int32} {k : Nat} {v v2 : Int32} : upd (upd f k v) k v2 = upd f k v2 := by
  funext q
  by_cases h1 : q = k
  · subst h1
    simp [upd]
  · simp [upd, h1]
theorem upd_id {f : Nat → Int32} {k : Nat} {v : Int32} (h : f k = v) : upd f k v = f := by
  funext q
  by_cases h1 : q = k
  · subst h1
    simp [upd, h]
  · simp [upd, h1]
/-- numbers in the plan's range -/
def rg (x : Int32) : Prop := -1024 ≤ x.toInt ∧ x.toInt ≤ 1024
theorem rg_sub {x c : Int32} (h : rg x) (hc : 0 ≤ c.toInt ∧ c.toInt ≤ 1000) : (x - c).toInt = x.toInt - c.toInt := by
  have := h.1
  have := h.2
  rw [Int32.toInt_sub, Int.bmod_eq_of_le (by omega) (by omega)]
theorem rg_add {x c : Int32} (h : rg x) (hc : 0 ≤ c.toInt ∧ c.toInt ≤ 1000) : (x + c).toInt = x.toInt + c.toInt := by
  have := h.1
  have := h.2
  rw [Int32.toInt_add, Int.bmod_eq_of_le (by omega) (by omega)]
theorem m8 (x : Int32) : x + 8 * (-1) = x - 8 := by
  rw [show (8 : Int32) * (-1) = -8 from by decide, Int32.sub_eq_add_neg]
theorem p8 (x : Int32) : x + 8 * 1 = x + 8 := by
  rw [show (8 : Int32) * 1 = 8 from by decide]
theorem mx_c (x y : Int32) : sp_max x y = if y ≤ x then x else y := by
  unfold sp_max
  by_cases h : x < y
  · rw [if_pos h, if_neg (Int32.not_le.mpr h)]
  · rw [if_neg h, if_pos (Int32.not_lt.mp h)]
theorem mn_c (x y : Int32) : sp_min x y = if x ≤ y then x else y := by
  unfold sp_min
  by_cases h : y < x
  · rw [if_pos h, if_neg (Int32.not_le.mpr h)]
  · rw [if_neg h, if_pos (Int32.not_lt.mp h)]
theorem end_eq {S : Nat → Nat → Int32} {i : Nat} (hi : i < 32) (hw : S i 10 = 0) : sm_end S (nI i) = sp_dropMover S i := by
  unfold sm_end sp_dropMover sp_go
  rw [nI_cl hi, up2_cc (k := 9) (k2 := 11) (by decide)]
  exact (up2_id (by simp [up2, upd, hw])).symm
theorem await_eq {S : Nat → Nat → Int32} {i : Nat} {t : Int32} (hi : i < 32) : sm_await S (nI i) t = sp_waitFor S i t := by
  unfold sm_await sp_waitFor
  rw [nI_cl hi]
end
