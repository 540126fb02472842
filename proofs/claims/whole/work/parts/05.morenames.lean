/-! names of three more methods of the hall (by a program) -/
abbrev cX1_are : ByteArray := prog_1_method_11_code
def yX1_are : MethodName := ⟨RX1, "are", "(II)Z"⟩
abbrev cX1_open : ByteArray := prog_1_method_12_code
def yX1_open : MethodName := ⟨RX1, "open", "(II)Z"⟩
abbrev cX1_look : ByteArray := prog_1_method_13_code
def yX1_look : MethodName := ⟨RX1, "look", "(I)I"⟩
def wsX1_are : List Cond := .code yX1_are cX1_are 3 (some .boolean) :: ([.fieldLink RX1 11 "MoverHall" "sectors" "[LMoverHall$Sector;", .methodLink RX1 38 yX1_isSector, .instanceMethod yX1_isSector, .selects RX1 yX1_isSector yX1_isSector, .initialized RX1, .code yX1_isSector cX1_isSector 2 (some .boolean), .fieldLink RX1 20 "MoverHall" "sectorCount" "I", .instanceMethod yX0_hasNeighbour, .initialized RX0, .selects RX0 yX0_hasNeighbour yX0_hasNeighbour, .code yX0_hasNeighbour cX0_hasNeighbour 2 (some .boolean), .fieldLink RX0 27 "MoverHall$Sector" "neighbours" "I"] ++ wsX10 ++ wsX00)
def wsX1_open : List Cond := .code yX1_open cX1_open 6 (some .boolean) :: ([.methodLink RX1 115 yX1_are, .instanceMethod yX1_are, .selects RX1 yX1_are yX1_are, .code yX1_are cX1_are 3 (some .boolean), .fieldLink RX1 11 "MoverHall" "sectors" "[LMoverHall$Sector;", .methodLink RX1 38 yX1_isSector, .instanceMethod yX1_isSector, .selects RX1 yX1_isSector yX1_isSector, .initialized RX1, .code yX1_isSector cX1_isSector 2 (some .boolean), .fieldLink RX1 20 "MoverHall" "sectorCount" "I", .instanceMethod yX0_hasNeighbour, .initialized RX0, .selects RX0 yX0_hasNeighbour yX0_hasNeighbour, .code yX0_hasNeighbour cX0_hasNeighbour 2 (some .boolean), .fieldLink RX0 27 "MoverHall$Sector" "neighbours" "I", .methodLink RX1 118 Lib.Math.min.name, .static Lib.Math.min.name, .code Lib.Math.min.name Lib.Math.min.code 2 (some .int), .methodLink RX1 124 Lib.Math.max.name, .static Lib.Math.max.name, .code Lib.Math.max.name Lib.Math.max.code 2 (some .int), .initialized "java/lang/Math"] ++ wsX10 ++ wsX00)
def wsX1_look : List Cond := .code yX1_look cX1_look 2 (some .int) :: ([.fieldLink RX1 20 "MoverHall" "sectorCount" "I", .fieldLink RX1 49 "MoverHall" "pairCount" "I", .fieldLink RX1 55 "MoverHall" "tickCount" "I", .fieldLink RX1 58 "MoverHall" "moverCount" "I", .fieldLink RX1 16 "MoverHall" "guestSector" "I", .fieldLink RX1 61 "MoverHall" "blockedCount" "I"] ++ wsX10)
set_option maxRecDepth 20000 in
theorem ggX1_are_X1_isSector : GoodIn wsX1_are wsX1_isSector := goodIn_r _ [6, 7, 13, 14, 15, 16, 17, 18, 19] (by decide +kernel) (by decide +kernel)
set_option maxRecDepth 20000 in
theorem gX1_are_X1_isSector : GoodIn wsX1_are (wsV RX1 38 RX1 yX1_isSector wsX1_isSector) := goodIn_app (goodIn_of _ (by decide +kernel)) ggX1_are_X1_isSector
set_option maxRecDepth 20000 in
theorem gX1_are_X0_hasNeighbour_n42 : GoodIn wsX1_are wsX0_hasNeighbour := goodIn_r _ [11, 12, 20, 21, 22, 23, 24, 25, 26, 27, 28, 29, 30, 31, 32] (by decide +kernel) (by decide +kernel)
set_option maxRecDepth 20000 in
theorem ggX1_open_X1_are : GoodIn wsX1_open wsX1_are := goodIn_r _ [4, 5, 6, 7, 8, 9, 10, 11, 12, 13, 14, 15, 16, 24, 25, 26, 27, 28, 29, 30, 31, 32, 33, 34, 35, 36, 37, 38, 39, 40, 41, 42, 43] (by decide +kernel) (by decide +kernel)
set_option maxRecDepth 20000 in
theorem gX1_open_X1_are : GoodIn wsX1_open (wsV RX1 115 RX1 yX1_are wsX1_are) := goodIn_app (goodIn_of _ (by decide +kernel)) ggX1_open_X1_are
theorem dX1_are_0 : decode cX1_are 0 = .ok (.aload_n 0, 1) := by decide +kernel
theorem dX1_are_1 : decode cX1_are 1 = .ok (.iload_n 1, 1) := by decide +kernel
theorem dX1_are_2 : decode cX1_are 2 = .ok (.invokevirtual 38, 3) := by decide +kernel
theorem dX1_are_5 : decode cX1_are 5 = .ok (.ifCond .eq 28, 3) := by decide +kernel
theorem dX1_are_8 : decode cX1_are 8 = .ok (.aload_n 0, 1) := by decide +kernel
theorem dX1_are_9 : decode cX1_are 9 = .ok (.iload_n 2, 1) := by decide +kernel
theorem dX1_are_10 : decode cX1_are 10 = .ok (.invokevirtual 38, 3) := by decide +kernel
theorem dX1_are_13 : decode cX1_are 13 = .ok (.ifCond .eq 20, 3) := by decide +kernel
theorem dX1_are_16 : decode cX1_are 16 = .ok (.aload_n 0, 1) := by decide +kernel
theorem dX1_are_17 : decode cX1_are 17 = .ok (.getfield 11, 3) := by decide +kernel
theorem dX1_are_20 : decode cX1_are 20 = .ok (.iload_n 1, 1) := by decide +kernel
theorem dX1_are_21 : decode cX1_are 21 = .ok (.aaload, 1) := by decide +kernel
theorem dX1_are_22 : decode cX1_are 22 = .ok (.iload_n 2, 1) := by decide +kernel
theorem dX1_are_23 : decode cX1_are 23 = .ok (.invokevirtual 42, 3) := by decide +kernel
theorem dX1_are_26 : decode cX1_are 26 = .ok (.ifCond .eq 7, 3) := by decide +kernel
theorem dX1_are_29 : decode cX1_are 29 = .ok (.iconst 1, 1) := by decide +kernel
theorem dX1_are_30 : decode cX1_are 30 = .ok (.goto 4, 3) := by decide +kernel
theorem dX1_are_33 : decode cX1_are 33 = .ok (.iconst 0, 1) := by decide +kernel
theorem dX1_are_34 : decode cX1_are 34 = .ok (.ireturn, 1) := by decide +kernel
theorem dX1_open_0 : decode cX1_open 0 = .ok (.aload_n 0, 1) := by decide +kernel
theorem dX1_open_1 : decode cX1_open 1 = .ok (.iload_n 1, 1) := by decide +kernel
theorem dX1_open_2 : decode cX1_open 2 = .ok (.iload_n 2, 1) := by decide +kernel
theorem dX1_open_3 : decode cX1_open 3 = .ok (.invokevirtual 115, 3) := by decide +kernel
theorem dX1_open_6 : decode cX1_open 6 = .ok (.ifCond .ne 5, 3) := by decide +kernel
theorem dX1_open_9 : decode cX1_open 9 = .ok (.iconst 0, 1) := by decide +kernel
theorem dX1_open_10 : decode cX1_open 10 = .ok (.ireturn, 1) := by decide +kernel
theorem dX1_open_11 : decode cX1_open 11 = .ok (.aload_n 0, 1) := by decide +kernel
theorem dX1_open_12 : decode cX1_open 12 = .ok (.getfield 11, 3) := by decide +kernel
theorem dX1_open_15 : decode cX1_open 15 = .ok (.iload_n 1, 1) := by decide +kernel
theorem dX1_open_16 : decode cX1_open 16 = .ok (.aaload, 1) := by decide +kernel
theorem dX1_open_17 : decode cX1_open 17 = .ok (.astore_n 3, 1) := by decide +kernel
theorem dX1_open_18 : decode cX1_open 18 = .ok (.aload_n 0, 1) := by decide +kernel
theorem dX1_open_19 : decode cX1_open 19 = .ok (.getfield 11, 3) := by decide +kernel
theorem dX1_open_22 : decode cX1_open 22 = .ok (.iload_n 2, 1) := by decide +kernel
theorem dX1_open_23 : decode cX1_open 23 = .ok (.aaload, 1) := by decide +kernel
theorem dX1_open_24 : decode cX1_open 24 = .ok (.astore 4, 2) := by decide +kernel
theorem dX1_open_26 : decode cX1_open 26 = .ok (.aload_n 3, 1) := by decide +kernel
theorem dX1_open_27 : decode cX1_open 27 = .ok (.getfield 93, 3) := by decide +kernel
theorem dX1_open_30 : decode cX1_open 30 = .ok (.aload 4, 2) := by decide +kernel
theorem dX1_open_32 : decode cX1_open 32 = .ok (.getfield 93, 3) := by decide +kernel
theorem dX1_open_35 : decode cX1_open 35 = .ok (.invokestatic 118, 3) := by decide +kernel
theorem dX1_open_38 : decode cX1_open 38 = .ok (.aload_n 3, 1) := by decide +kernel
theorem dX1_open_39 : decode cX1_open 39 = .ok (.getfield 90, 3) := by decide +kernel
theorem dX1_open_42 : decode cX1_open 42 = .ok (.aload 4, 2) := by decide +kernel
theorem dX1_open_44 : decode cX1_open 44 = .ok (.getfield 90, 3) := by decide +kernel
theorem dX1_open_47 : decode cX1_open 47 = .ok (.invokestatic 124, 3) := by decide +kernel
theorem dX1_open_50 : decode cX1_open 50 = .ok (.isub, 1) := by decide +kernel
theorem dX1_open_51 : decode cX1_open 51 = .ok (.istore 5, 2) := by decide +kernel
theorem dX1_open_53 : decode cX1_open 53 = .ok (.aload 4, 2) := by decide +kernel
theorem dX1_open_55 : decode cX1_open 55 = .ok (.getfield 90, 3) := by decide +kernel
theorem dX1_open_58 : decode cX1_open 58 = .ok (.aload_n 3, 1) := by decide +kernel
theorem dX1_open_59 : decode cX1_open 59 = .ok (.getfield 90, 3) := by decide +kernel
theorem dX1_open_62 : decode cX1_open 62 = .ok (.isub, 1) := by decide +kernel
theorem dX1_open_63 : decode cX1_open 63 = .ok (.bipush 24, 2) := by decide +kernel
theorem dX1_open_65 : decode cX1_open 65 = .ok (.if_icmp .gt 14, 3) := by decide +kernel
theorem dX1_open_68 : decode cX1_open 68 = .ok (.iload 5, 2) := by decide +kernel
theorem dX1_open_70 : decode cX1_open 70 = .ok (.bipush 56, 2) := by decide +kernel
theorem dX1_open_72 : decode cX1_open 72 = .ok (.if_icmp .lt 7, 3) := by decide +kernel
theorem dX1_open_75 : decode cX1_open 75 = .ok (.iconst 1, 1) := by decide +kernel
theorem dX1_open_76 : decode cX1_open 76 = .ok (.goto 4, 3) := by decide +kernel
theorem dX1_open_79 : decode cX1_open 79 = .ok (.iconst 0, 1) := by decide +kernel
theorem dX1_open_80 : decode cX1_open 80 = .ok (.ireturn, 1) := by decide +kernel
theorem dX1_look_0 : decode cX1_look 0 = .ok (.iload_n 1, 1) := by decide +kernel
theorem dX1_look_1 : decode cX1_look 1 = .ok (.tableswitch 69 0 5 #[39, 44, 49, 54, 59, 64], 39) := by decide +kernel
theorem dX1_look_40 : decode cX1_look 40 = .ok (.aload_n 0, 1) := by decide +kernel
theorem dX1_look_41 : decode cX1_look 41 = .ok (.getfield 20, 3) := by decide +kernel
theorem dX1_look_44 : decode cX1_look 44 = .ok (.ireturn, 1) := by decide +kernel
theorem dX1_look_45 : decode cX1_look 45 = .ok (.aload_n 0, 1) := by decide +kernel
theorem dX1_look_46 : decode cX1_look 46 = .ok (.getfield 49, 3) := by decide +kernel
theorem dX1_look_49 : decode cX1_look 49 = .ok (.ireturn, 1) := by decide +kernel
theorem dX1_look_50 : decode cX1_look 50 = .ok (.aload_n 0, 1) := by decide +kernel
theorem dX1_look_51 : decode cX1_look 51 = .ok (.getfield 55, 3) := by decide +kernel
theorem dX1_look_54 : decode cX1_look 54 = .ok (.ireturn, 1) := by decide +kernel
theorem dX1_look_55 : decode cX1_look 55 = .ok (.aload_n 0, 1) := by decide +kernel
theorem dX1_look_56 : decode cX1_look 56 = .ok (.getfield 58, 3) := by decide +kernel
theorem dX1_look_59 : decode cX1_look 59 = .ok (.ireturn, 1) := by decide +kernel
theorem dX1_look_60 : decode cX1_look 60 = .ok (.aload_n 0, 1) := by decide +kernel
theorem dX1_look_61 : decode cX1_look 61 = .ok (.getfield 16, 3) := by decide +kernel
theorem dX1_look_64 : decode cX1_look 64 = .ok (.ireturn, 1) := by decide +kernel
theorem dX1_look_65 : decode cX1_look 65 = .ok (.aload_n 0, 1) := by decide +kernel
theorem dX1_look_66 : decode cX1_look 66 = .ok (.getfield 61, 3) := by decide +kernel
theorem dX1_look_69 : decode cX1_look 69 = .ok (.ireturn, 1) := by decide +kernel
theorem dX1_look_70 : decode cX1_look 70 = .ok (.iconst (-1), 1) := by decide +kernel
theorem dX1_look_71 : decode cX1_look 71 = .ok (.ireturn, 1) := by decide +kernel
