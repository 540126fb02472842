/-! names of the reference, as the printed ones (by a program, out of JAVAP.txt) -/
def RX3 : String := "MoverHallModel"
def TX3 : u_T := fun k => match k with
  | 0 => ("MoverHallModel", "thrown", "I", false)
  | 1 => ("MoverHallModel", "sectors", "I", false)
  | 2 => ("MoverHallModel", "planFloors", "[I", true)
  | 3 => ("MoverHallModel", "planCeilings", "[I", true)
  | 4 => ("MoverHallModel", "lights", "[I", true)
  | 5 => ("MoverHallModel", "kinds", "[I", true)
  | 6 => ("MoverHallModel", "tags", "[I", true)
  | 7 => ("MoverHallModel", "beside", "[Z", true)
  | 8 => ("MoverHallModel", "pairs", "I", false)
  | 9 => ("MoverHallModel", "floors", "[I", true)
  | 10 => ("MoverHallModel", "ceilings", "[I", true)
  | 11 => ("MoverHallModel", "movers", "[I", true)
  | 12 => ("MoverHallModel", "ways", "[I", true)
  | 13 => ("MoverHallModel", "waits", "[I", true)
  | 14 => ("MoverHallModel", "ends", "[I", true)
  | 15 => ("MoverHallModel", "homes", "[I", true)
  | 16 => ("MoverHallModel", "time", "I", false)
  | 17 => ("MoverHallModel", "guest", "I", false)
  | _ => ("MoverHallModel", "blocked", "I", false)
def tyX3 : Nat → FieldType := fun k => match k with
  | 0 => .int
  | 1 => .int
  | 2 => .array .int
  | 3 => .array .int
  | 4 => .array .int
  | 5 => .array .int
  | 6 => .array .int
  | 7 => .array .boolean
  | 8 => .int
  | 9 => .array .int
  | 10 => .array .int
  | 11 => .array .int
  | 12 => .array .int
  | 13 => .array .int
  | 14 => .array .int
  | 15 => .array .int
  | 16 => .int
  | 17 => .int
  | _ => .int
abbrev wsX30 : List Cond := u_ws RX3 TX3 19
theorem nmX3 : ∀ a, a < 19 → ∀ b, b < 19 → a ≠ b → (TX3 a).2.1 ≠ (TX3 b).2.1 := by decide +kernel
theorem tyX3_ok : ∀ k, k < 19 → parseFieldDescriptor (TX3 k).2.2.1 = some (tyX3 k) := by decide +kernel
abbrev cX3_init : ByteArray := prog_4_method_1_code
def yX3_init : MethodName := ⟨RX3, "<init>", "()V"⟩
abbrev cX3_isSector : ByteArray := prog_4_method_3_code
def yX3_isSector : MethodName := ⟨RX3, "isSector", "(I)Z"⟩
abbrev cX3_sector : ByteArray := prog_4_method_4_code
def yX3_sector : MethodName := ⟨RX3, "sector", "(IIIII)I"⟩
abbrev cX3_join : ByteArray := prog_4_method_5_code
def yX3_join : MethodName := ⟨RX3, "join", "(II)Z"⟩
abbrev cX3_reset : ByteArray := prog_4_method_6_code
def yX3_reset : MethodName := ⟨RX3, "reset", "()V"⟩
abbrev cX3_clear : ByteArray := prog_4_method_7_code
def yX3_clear : MethodName := ⟨RX3, "clear", "()V"⟩
abbrev cX3_lowFloor : ByteArray := prog_4_method_8_code
def yX3_lowFloor : MethodName := ⟨RX3, "lowFloor", "(I)I"⟩
abbrev cX3_highFloor : ByteArray := prog_4_method_9_code
def yX3_highFloor : MethodName := ⟨RX3, "highFloor", "(I)I"⟩
abbrev cX3_lowCeiling : ByteArray := prog_4_method_10_code
def yX3_lowCeiling : MethodName := ⟨RX3, "lowCeiling", "(I)I"⟩
abbrev cX3_begin : ByteArray := prog_4_method_11_code
def yX3_begin : MethodName := ⟨RX3, "begin", "(II)Z"⟩
abbrev cX3_tag : ByteArray := prog_4_method_12_code
def yX3_tag : MethodName := ⟨RX3, "tag", "(II)I"⟩
abbrev cX3_enter : ByteArray := prog_4_method_13_code
def yX3_enter : MethodName := ⟨RX3, "enter", "(I)Z"⟩
abbrev cX3_end : ByteArray := prog_4_method_14_code
def yX3_end : MethodName := ⟨RX3, "end", "(I)V"⟩
abbrev cX3_await : ByteArray := prog_4_method_15_code
def yX3_await : MethodName := ⟨RX3, "await", "(II)V"⟩
abbrev cX3_stepDoor : ByteArray := prog_4_method_16_code
def yX3_stepDoor : MethodName := ⟨RX3, "stepDoor", "(I)V"⟩
abbrev cX3_rise : ByteArray := prog_4_method_17_code
def yX3_rise : MethodName := ⟨RX3, "rise", "(III)V"⟩
abbrev cX3_step : ByteArray := prog_4_method_18_code
def yX3_step : MethodName := ⟨RX3, "step", "(I)V"⟩
abbrev cX3_ticks : ByteArray := prog_4_method_19_code
def yX3_ticks : MethodName := ⟨RX3, "ticks", "(I)I"⟩
abbrev cX3_many : ByteArray := prog_4_method_20_code
def yX3_many : MethodName := ⟨RX3, "many", "()I"⟩
abbrev cX3_lightOf : ByteArray := prog_4_method_21_code
def yX3_lightOf : MethodName := ⟨RX3, "lightOf", "(I)I"⟩
abbrev cX3_of : ByteArray := prog_4_method_22_code
def yX3_of : MethodName := ⟨RX3, "of", "(II)I"⟩
abbrev cX3_are : ByteArray := prog_4_method_23_code
def yX3_are : MethodName := ⟨RX3, "are", "(II)Z"⟩
abbrev cX3_open : ByteArray := prog_4_method_24_code
def yX3_open : MethodName := ⟨RX3, "open", "(II)Z"⟩
abbrev cX3_look : ByteArray := prog_4_method_25_code
def yX3_look : MethodName := ⟨RX3, "look", "(I)I"⟩
/-- the words of all its methods -/
def wsX3 : List Cond := [Cond.fieldLink RX3 7 "MoverHallModel" "planFloors" "[I", Cond.fieldLink RX3 13 "MoverHallModel" "planCeilings" "[I", Cond.fieldLink RX3 16 "MoverHallModel" "lights" "[I", Cond.fieldLink RX3 19 "MoverHallModel" "kinds" "[I", Cond.fieldLink RX3 22 "MoverHallModel" "tags" "[I", Cond.fieldLink RX3 25 "MoverHallModel" "beside" "[Z", Cond.fieldLink RX3 29 "MoverHallModel" "floors" "[I", Cond.fieldLink RX3 32 "MoverHallModel" "ceilings" "[I", Cond.fieldLink RX3 35 "MoverHallModel" "movers" "[I", Cond.fieldLink RX3 38 "MoverHallModel" "ways" "[I", Cond.fieldLink RX3 41 "MoverHallModel" "waits" "[I", Cond.fieldLink RX3 44 "MoverHallModel" "ends" "[I", Cond.fieldLink RX3 47 "MoverHallModel" "homes" "[I", Cond.fieldLink RX3 50 "MoverHallModel" "guest" "I", Cond.fieldLink RX3 57 "MoverHallModel" "sectors" "I", Cond.fieldLink RX3 54 "MoverHallModel" "thrown" "I", Cond.methodLink RX3 60 yX3_reset, Cond.instanceMethod yX3_reset, Cond.selects RX3 yX3_reset yX3_reset, Cond.code yX3_reset cX3_reset 2 none, Cond.methodLink RX3 63 yX3_isSector, Cond.instanceMethod yX3_isSector, Cond.selects RX3 yX3_isSector yX3_isSector, Cond.code yX3_isSector cX3_isSector 2 (some .boolean), Cond.fieldLink RX3 67 "MoverHallModel" "pairs" "I", Cond.fieldLink RX3 70 "MoverHallModel" "time" "I", Cond.fieldLink RX3 73 "MoverHallModel" "blocked" "I", Cond.constant RX3 76 100000, Cond.methodLink RX3 77 yX3_lowCeiling, Cond.instanceMethod yX3_lowCeiling, Cond.selects RX3 yX3_lowCeiling yX3_lowCeiling, Cond.code yX3_lowCeiling cX3_lowCeiling 4 (some .int), Cond.methodLink RX3 81 yX3_highFloor, Cond.instanceMethod yX3_highFloor, Cond.selects RX3 yX3_highFloor yX3_highFloor, Cond.code yX3_highFloor cX3_highFloor 4 (some .int), Cond.methodLink RX3 84 yX3_lowFloor, Cond.instanceMethod yX3_lowFloor, Cond.selects RX3 yX3_lowFloor yX3_lowFloor, Cond.code yX3_lowFloor cX3_lowFloor 4 (some .int), Cond.methodLink RX3 87 yX3_begin, Cond.instanceMethod yX3_begin, Cond.selects RX3 yX3_begin yX3_begin, Cond.code yX3_begin cX3_begin 5 (some .boolean), Cond.methodLink RX3 91 yX3_await, Cond.instanceMethod yX3_await, Cond.selects RX3 yX3_await yX3_await, Cond.code yX3_await cX3_await 3 none, Cond.methodLink RX3 95 yX3_end, Cond.instanceMethod yX3_end, Cond.selects RX3 yX3_end yX3_end, Cond.code yX3_end cX3_end 2 none, Cond.methodLink RX3 99 yX3_stepDoor, Cond.instanceMethod yX3_stepDoor, Cond.selects RX3 yX3_stepDoor yX3_stepDoor, Cond.code yX3_stepDoor cX3_stepDoor 3 none, Cond.methodLink RX3 102 yX3_rise, Cond.instanceMethod yX3_rise, Cond.selects RX3 yX3_rise yX3_rise, Cond.code yX3_rise cX3_rise 5 none, Cond.methodLink RX3 106 yX3_step, Cond.instanceMethod yX3_step, Cond.selects RX3 yX3_step yX3_step, Cond.code yX3_step cX3_step 2 none, Cond.methodLink RX3 109 yX3_many, Cond.instanceMethod yX3_many, Cond.selects RX3 yX3_many yX3_many, Cond.code yX3_many cX3_many 3 (some .int), Cond.methodLink RX3 113 yX3_lightOf, Cond.instanceMethod yX3_lightOf, Cond.selects RX3 yX3_lightOf yX3_lightOf, Cond.code yX3_lightOf cX3_lightOf 4 (some .int), Cond.methodLink RX3 116 yX3_are, Cond.instanceMethod yX3_are, Cond.selects RX3 yX3_are yX3_are, Cond.code yX3_are cX3_are 3 (some .boolean), Cond.initialized RX3, Cond.methodLink RX3 1 objectInit, Cond.instanceMethod objectInit, Cond.code objectInit ⟨#[0xb1]⟩ 1 none, Cond.arrayClass .int, Cond.arrayClass .boolean] ++ wsX30
def wsX3_init : List Cond := .code yX3_init cX3_init 1 none :: wsX3
def wsX3_isSector : List Cond := .code yX3_isSector cX3_isSector 2 (some .boolean) :: wsX3
def wsX3_sector : List Cond := .code yX3_sector cX3_sector 7 (some .int) :: wsX3
def wsX3_join : List Cond := .code yX3_join cX3_join 3 (some .boolean) :: wsX3
def wsX3_reset : List Cond := .code yX3_reset cX3_reset 2 none :: wsX3
def wsX3_clear : List Cond := .code yX3_clear cX3_clear 2 none :: wsX3
def wsX3_lowFloor : List Cond := .code yX3_lowFloor cX3_lowFloor 4 (some .int) :: wsX3
def wsX3_highFloor : List Cond := .code yX3_highFloor cX3_highFloor 4 (some .int) :: wsX3
def wsX3_lowCeiling : List Cond := .code yX3_lowCeiling cX3_lowCeiling 4 (some .int) :: wsX3
def wsX3_begin : List Cond := .code yX3_begin cX3_begin 5 (some .boolean) :: wsX3
def wsX3_tag : List Cond := .code yX3_tag cX3_tag 5 (some .int) :: wsX3
def wsX3_enter : List Cond := .code yX3_enter cX3_enter 2 (some .boolean) :: wsX3
def wsX3_end : List Cond := .code yX3_end cX3_end 2 none :: wsX3
def wsX3_await : List Cond := .code yX3_await cX3_await 3 none :: wsX3
def wsX3_stepDoor : List Cond := .code yX3_stepDoor cX3_stepDoor 3 none :: wsX3
def wsX3_rise : List Cond := .code yX3_rise cX3_rise 5 none :: wsX3
def wsX3_step : List Cond := .code yX3_step cX3_step 2 none :: wsX3
def wsX3_ticks : List Cond := .code yX3_ticks cX3_ticks 4 (some .int) :: wsX3
def wsX3_many : List Cond := .code yX3_many cX3_many 3 (some .int) :: wsX3
def wsX3_lightOf : List Cond := .code yX3_lightOf cX3_lightOf 4 (some .int) :: wsX3
def wsX3_of : List Cond := .code yX3_of cX3_of 3 (some .int) :: wsX3
def wsX3_are : List Cond := .code yX3_are cX3_are 3 (some .boolean) :: wsX3
def wsX3_open : List Cond := .code yX3_open cX3_open 5 (some .boolean) :: wsX3
def wsX3_look : List Cond := .code yX3_look cX3_look 2 (some .int) :: wsX3
theorem inX3 : ∀ w ∈ wsX30, w ∈ wsX3 := fun _ h => List.mem_append_right _ h
theorem x3_good : wsX3.all goodWord = true := by decide +kernel
/-- a callee's words among a caller's: all stand in the one list -/
theorem x3_in {a c : Cond} {idx : Nat} {y : MethodName} (hl : Cond.methodLink RX3 idx y ∈ wsX3) (hi : Cond.instanceMethod y ∈ wsX3) (hs : Cond.selects RX3 y y ∈ wsX3) (hn : Cond.initialized RX3 ∈ wsX3) (hc : c ∈ wsX3) : GoodIn (a :: wsX3) (wsV RX3 idx RX3 y (c :: wsX3)) := by
  have g : ∀ w ∈ wsX3, w ∈ a :: wsX3 ∧ ((w.onTables && w.keeps) = true ∨ ∃ ty, w = .arrayClass ty) := fun w hw => ⟨List.mem_cons_of_mem _ hw, good_of_word (List.all_eq_true.mp x3_good w hw)⟩
  intro w hw
  rcases List.mem_append.mp hw with h | h
  · rcases List.mem_cons.mp h with rfl | h
    · exact g _ hl
    · rcases List.mem_cons.mp h with rfl | h
      · exact g _ hi
      · rcases List.mem_cons.mp h with rfl | h
        · exact g _ hs
        · rcases List.mem_cons.mp h with rfl | h
          · exact g _ hn
          · cases h
  · rcases List.mem_cons.mp h with rfl | h
    · exact g _ hc
    · exact g _ h
theorem k3_f7 : Cond.fieldLink RX3 7 "MoverHallModel" "planFloors" "[I" ∈ wsX3 := List.mem_append_left _ (List.mem_of_getElem? (i := 0) rfl)
theorem k3_f13 : Cond.fieldLink RX3 13 "MoverHallModel" "planCeilings" "[I" ∈ wsX3 := List.mem_append_left _ (List.mem_of_getElem? (i := 1) rfl)
theorem k3_f16 : Cond.fieldLink RX3 16 "MoverHallModel" "lights" "[I" ∈ wsX3 := List.mem_append_left _ (List.mem_of_getElem? (i := 2) rfl)
theorem k3_f19 : Cond.fieldLink RX3 19 "MoverHallModel" "kinds" "[I" ∈ wsX3 := List.mem_append_left _ (List.mem_of_getElem? (i := 3) rfl)
theorem k3_f22 : Cond.fieldLink RX3 22 "MoverHallModel" "tags" "[I" ∈ wsX3 := List.mem_append_left _ (List.mem_of_getElem? (i := 4) rfl)
theorem k3_f25 : Cond.fieldLink RX3 25 "MoverHallModel" "beside" "[Z" ∈ wsX3 := List.mem_append_left _ (List.mem_of_getElem? (i := 5) rfl)
theorem k3_f29 : Cond.fieldLink RX3 29 "MoverHallModel" "floors" "[I" ∈ wsX3 := List.mem_append_left _ (List.mem_of_getElem? (i := 6) rfl)
theorem k3_f32 : Cond.fieldLink RX3 32 "MoverHallModel" "ceilings" "[I" ∈ wsX3 := List.mem_append_left _ (List.mem_of_getElem? (i := 7) rfl)
theorem k3_f35 : Cond.fieldLink RX3 35 "MoverHallModel" "movers" "[I" ∈ wsX3 := List.mem_append_left _ (List.mem_of_getElem? (i := 8) rfl)
theorem k3_f38 : Cond.fieldLink RX3 38 "MoverHallModel" "ways" "[I" ∈ wsX3 := List.mem_append_left _ (List.mem_of_getElem? (i := 9) rfl)
theorem k3_f41 : Cond.fieldLink RX3 41 "MoverHallModel" "waits" "[I" ∈ wsX3 := List.mem_append_left _ (List.mem_of_getElem? (i := 10) rfl)
theorem k3_f44 : Cond.fieldLink RX3 44 "MoverHallModel" "ends" "[I" ∈ wsX3 := List.mem_append_left _ (List.mem_of_getElem? (i := 11) rfl)
theorem k3_f47 : Cond.fieldLink RX3 47 "MoverHallModel" "homes" "[I" ∈ wsX3 := List.mem_append_left _ (List.mem_of_getElem? (i := 12) rfl)
theorem k3_f50 : Cond.fieldLink RX3 50 "MoverHallModel" "guest" "I" ∈ wsX3 := List.mem_append_left _ (List.mem_of_getElem? (i := 13) rfl)
theorem k3_f57 : Cond.fieldLink RX3 57 "MoverHallModel" "sectors" "I" ∈ wsX3 := List.mem_append_left _ (List.mem_of_getElem? (i := 14) rfl)
theorem k3_f54 : Cond.fieldLink RX3 54 "MoverHallModel" "thrown" "I" ∈ wsX3 := List.mem_append_left _ (List.mem_of_getElem? (i := 15) rfl)
theorem k3_m60 : Cond.methodLink RX3 60 yX3_reset ∈ wsX3 := List.mem_append_left _ (List.mem_of_getElem? (i := 16) rfl)
theorem k3_i_reset : Cond.instanceMethod yX3_reset ∈ wsX3 := List.mem_append_left _ (List.mem_of_getElem? (i := 17) rfl)
theorem k3_s_reset : Cond.selects RX3 yX3_reset yX3_reset ∈ wsX3 := List.mem_append_left _ (List.mem_of_getElem? (i := 18) rfl)
theorem k3_c_reset : Cond.code yX3_reset cX3_reset 2 none ∈ wsX3 := List.mem_append_left _ (List.mem_of_getElem? (i := 19) rfl)
theorem k3_m63 : Cond.methodLink RX3 63 yX3_isSector ∈ wsX3 := List.mem_append_left _ (List.mem_of_getElem? (i := 20) rfl)
theorem k3_i_isSector : Cond.instanceMethod yX3_isSector ∈ wsX3 := List.mem_append_left _ (List.mem_of_getElem? (i := 21) rfl)
theorem k3_s_isSector : Cond.selects RX3 yX3_isSector yX3_isSector ∈ wsX3 := List.mem_append_left _ (List.mem_of_getElem? (i := 22) rfl)
theorem k3_c_isSector : Cond.code yX3_isSector cX3_isSector 2 (some .boolean) ∈ wsX3 := List.mem_append_left _ (List.mem_of_getElem? (i := 23) rfl)
theorem k3_f67 : Cond.fieldLink RX3 67 "MoverHallModel" "pairs" "I" ∈ wsX3 := List.mem_append_left _ (List.mem_of_getElem? (i := 24) rfl)
theorem k3_f70 : Cond.fieldLink RX3 70 "MoverHallModel" "time" "I" ∈ wsX3 := List.mem_append_left _ (List.mem_of_getElem? (i := 25) rfl)
theorem k3_f73 : Cond.fieldLink RX3 73 "MoverHallModel" "blocked" "I" ∈ wsX3 := List.mem_append_left _ (List.mem_of_getElem? (i := 26) rfl)
theorem k3_k76 : Cond.constant RX3 76 100000 ∈ wsX3 := List.mem_append_left _ (List.mem_of_getElem? (i := 27) rfl)
theorem k3_m77 : Cond.methodLink RX3 77 yX3_lowCeiling ∈ wsX3 := List.mem_append_left _ (List.mem_of_getElem? (i := 28) rfl)
theorem k3_i_lowCeiling : Cond.instanceMethod yX3_lowCeiling ∈ wsX3 := List.mem_append_left _ (List.mem_of_getElem? (i := 29) rfl)
theorem k3_s_lowCeiling : Cond.selects RX3 yX3_lowCeiling yX3_lowCeiling ∈ wsX3 := List.mem_append_left _ (List.mem_of_getElem? (i := 30) rfl)
theorem k3_c_lowCeiling : Cond.code yX3_lowCeiling cX3_lowCeiling 4 (some .int) ∈ wsX3 := List.mem_append_left _ (List.mem_of_getElem? (i := 31) rfl)
theorem k3_m81 : Cond.methodLink RX3 81 yX3_highFloor ∈ wsX3 := List.mem_append_left _ (List.mem_of_getElem? (i := 32) rfl)
theorem k3_i_highFloor : Cond.instanceMethod yX3_highFloor ∈ wsX3 := List.mem_append_left _ (List.mem_of_getElem? (i := 33) rfl)
theorem k3_s_highFloor : Cond.selects RX3 yX3_highFloor yX3_highFloor ∈ wsX3 := List.mem_append_left _ (List.mem_of_getElem? (i := 34) rfl)
theorem k3_c_highFloor : Cond.code yX3_highFloor cX3_highFloor 4 (some .int) ∈ wsX3 := List.mem_append_left _ (List.mem_of_getElem? (i := 35) rfl)
theorem k3_m84 : Cond.methodLink RX3 84 yX3_lowFloor ∈ wsX3 := List.mem_append_left _ (List.mem_of_getElem? (i := 36) rfl)
theorem k3_i_lowFloor : Cond.instanceMethod yX3_lowFloor ∈ wsX3 := List.mem_append_left _ (List.mem_of_getElem? (i := 37) rfl)
theorem k3_s_lowFloor : Cond.selects RX3 yX3_lowFloor yX3_lowFloor ∈ wsX3 := List.mem_append_left _ (List.mem_of_getElem? (i := 38) rfl)
theorem k3_c_lowFloor : Cond.code yX3_lowFloor cX3_lowFloor 4 (some .int) ∈ wsX3 := List.mem_append_left _ (List.mem_of_getElem? (i := 39) rfl)
theorem k3_m87 : Cond.methodLink RX3 87 yX3_begin ∈ wsX3 := List.mem_append_left _ (List.mem_of_getElem? (i := 40) rfl)
theorem k3_i_begin : Cond.instanceMethod yX3_begin ∈ wsX3 := List.mem_append_left _ (List.mem_of_getElem? (i := 41) rfl)
theorem k3_s_begin : Cond.selects RX3 yX3_begin yX3_begin ∈ wsX3 := List.mem_append_left _ (List.mem_of_getElem? (i := 42) rfl)
theorem k3_c_begin : Cond.code yX3_begin cX3_begin 5 (some .boolean) ∈ wsX3 := List.mem_append_left _ (List.mem_of_getElem? (i := 43) rfl)
theorem k3_m91 : Cond.methodLink RX3 91 yX3_await ∈ wsX3 := List.mem_append_left _ (List.mem_of_getElem? (i := 44) rfl)
theorem k3_i_await : Cond.instanceMethod yX3_await ∈ wsX3 := List.mem_append_left _ (List.mem_of_getElem? (i := 45) rfl)
theorem k3_s_await : Cond.selects RX3 yX3_await yX3_await ∈ wsX3 := List.mem_append_left _ (List.mem_of_getElem? (i := 46) rfl)
theorem k3_c_await : Cond.code yX3_await cX3_await 3 none ∈ wsX3 := List.mem_append_left _ (List.mem_of_getElem? (i := 47) rfl)
theorem k3_m95 : Cond.methodLink RX3 95 yX3_end ∈ wsX3 := List.mem_append_left _ (List.mem_of_getElem? (i := 48) rfl)
theorem k3_i_end : Cond.instanceMethod yX3_end ∈ wsX3 := List.mem_append_left _ (List.mem_of_getElem? (i := 49) rfl)
theorem k3_s_end : Cond.selects RX3 yX3_end yX3_end ∈ wsX3 := List.mem_append_left _ (List.mem_of_getElem? (i := 50) rfl)
theorem k3_c_end : Cond.code yX3_end cX3_end 2 none ∈ wsX3 := List.mem_append_left _ (List.mem_of_getElem? (i := 51) rfl)
theorem k3_m99 : Cond.methodLink RX3 99 yX3_stepDoor ∈ wsX3 := List.mem_append_left _ (List.mem_of_getElem? (i := 52) rfl)
theorem k3_i_stepDoor : Cond.instanceMethod yX3_stepDoor ∈ wsX3 := List.mem_append_left _ (List.mem_of_getElem? (i := 53) rfl)
theorem k3_s_stepDoor : Cond.selects RX3 yX3_stepDoor yX3_stepDoor ∈ wsX3 := List.mem_append_left _ (List.mem_of_getElem? (i := 54) rfl)
theorem k3_c_stepDoor : Cond.code yX3_stepDoor cX3_stepDoor 3 none ∈ wsX3 := List.mem_append_left _ (List.mem_of_getElem? (i := 55) rfl)
theorem k3_m102 : Cond.methodLink RX3 102 yX3_rise ∈ wsX3 := List.mem_append_left _ (List.mem_of_getElem? (i := 56) rfl)
theorem k3_i_rise : Cond.instanceMethod yX3_rise ∈ wsX3 := List.mem_append_left _ (List.mem_of_getElem? (i := 57) rfl)
theorem k3_s_rise : Cond.selects RX3 yX3_rise yX3_rise ∈ wsX3 := List.mem_append_left _ (List.mem_of_getElem? (i := 58) rfl)
theorem k3_c_rise : Cond.code yX3_rise cX3_rise 5 none ∈ wsX3 := List.mem_append_left _ (List.mem_of_getElem? (i := 59) rfl)
theorem k3_m106 : Cond.methodLink RX3 106 yX3_step ∈ wsX3 := List.mem_append_left _ (List.mem_of_getElem? (i := 60) rfl)
theorem k3_i_step : Cond.instanceMethod yX3_step ∈ wsX3 := List.mem_append_left _ (List.mem_of_getElem? (i := 61) rfl)
theorem k3_s_step : Cond.selects RX3 yX3_step yX3_step ∈ wsX3 := List.mem_append_left _ (List.mem_of_getElem? (i := 62) rfl)
theorem k3_c_step : Cond.code yX3_step cX3_step 2 none ∈ wsX3 := List.mem_append_left _ (List.mem_of_getElem? (i := 63) rfl)
theorem k3_m109 : Cond.methodLink RX3 109 yX3_many ∈ wsX3 := List.mem_append_left _ (List.mem_of_getElem? (i := 64) rfl)
theorem k3_i_many : Cond.instanceMethod yX3_many ∈ wsX3 := List.mem_append_left _ (List.mem_of_getElem? (i := 65) rfl)
theorem k3_s_many : Cond.selects RX3 yX3_many yX3_many ∈ wsX3 := List.mem_append_left _ (List.mem_of_getElem? (i := 66) rfl)
theorem k3_c_many : Cond.code yX3_many cX3_many 3 (some .int) ∈ wsX3 := List.mem_append_left _ (List.mem_of_getElem? (i := 67) rfl)
theorem k3_m113 : Cond.methodLink RX3 113 yX3_lightOf ∈ wsX3 := List.mem_append_left _ (List.mem_of_getElem? (i := 68) rfl)
theorem k3_i_lightOf : Cond.instanceMethod yX3_lightOf ∈ wsX3 := List.mem_append_left _ (List.mem_of_getElem? (i := 69) rfl)
theorem k3_s_lightOf : Cond.selects RX3 yX3_lightOf yX3_lightOf ∈ wsX3 := List.mem_append_left _ (List.mem_of_getElem? (i := 70) rfl)
theorem k3_c_lightOf : Cond.code yX3_lightOf cX3_lightOf 4 (some .int) ∈ wsX3 := List.mem_append_left _ (List.mem_of_getElem? (i := 71) rfl)
theorem k3_m116 : Cond.methodLink RX3 116 yX3_are ∈ wsX3 := List.mem_append_left _ (List.mem_of_getElem? (i := 72) rfl)
theorem k3_i_are : Cond.instanceMethod yX3_are ∈ wsX3 := List.mem_append_left _ (List.mem_of_getElem? (i := 73) rfl)
theorem k3_s_are : Cond.selects RX3 yX3_are yX3_are ∈ wsX3 := List.mem_append_left _ (List.mem_of_getElem? (i := 74) rfl)
theorem k3_c_are : Cond.code yX3_are cX3_are 3 (some .boolean) ∈ wsX3 := List.mem_append_left _ (List.mem_of_getElem? (i := 75) rfl)
theorem k3_ini : Cond.initialized RX3 ∈ wsX3 := List.mem_append_left _ (List.mem_of_getElem? (i := 76) rfl)
theorem k3_ol : Cond.methodLink RX3 1 objectInit ∈ wsX3 := List.mem_append_left _ (List.mem_of_getElem? (i := 77) rfl)
theorem k3_oi : Cond.instanceMethod objectInit ∈ wsX3 := List.mem_append_left _ (List.mem_of_getElem? (i := 78) rfl)
theorem k3_oc : Cond.code objectInit ⟨#[0xb1]⟩ 1 none ∈ wsX3 := List.mem_append_left _ (List.mem_of_getElem? (i := 79) rfl)
theorem k3_ai : Cond.arrayClass .int ∈ wsX3 := List.mem_append_left _ (List.mem_of_getElem? (i := 80) rfl)
theorem k3_az : Cond.arrayClass .boolean ∈ wsX3 := List.mem_append_left _ (List.mem_of_getElem? (i := 81) rfl)
