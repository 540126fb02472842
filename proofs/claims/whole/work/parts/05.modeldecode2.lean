theorem dX3_enter_15 : decode cX3_enter 15 = .ok (.ifCond .ne 5, 3) := by decide +kernel
theorem dX3_enter_18 : decode cX3_enter 18 = .ok (.iconst 0, 1) := by decide +kernel
theorem dX3_enter_19 : decode cX3_enter 19 = .ok (.ireturn, 1) := by decide +kernel
theorem dX3_enter_20 : decode cX3_enter 20 = .ok (.aload_n 0, 1) := by decide +kernel
theorem dX3_enter_21 : decode cX3_enter 21 = .ok (.iload_n 1, 1) := by decide +kernel
theorem dX3_enter_22 : decode cX3_enter 22 = .ok (.putfield 50, 3) := by decide +kernel
theorem dX3_enter_25 : decode cX3_enter 25 = .ok (.iconst 1, 1) := by decide +kernel
theorem dX3_enter_26 : decode cX3_enter 26 = .ok (.ireturn, 1) := by decide +kernel
theorem dX3_end_0 : decode cX3_end 0 = .ok (.aload_n 0, 1) := by decide +kernel
theorem dX3_end_1 : decode cX3_end 1 = .ok (.getfield 35, 3) := by decide +kernel
theorem dX3_end_4 : decode cX3_end 4 = .ok (.iload_n 1, 1) := by decide +kernel
theorem dX3_end_5 : decode cX3_end 5 = .ok (.iconst (-1), 1) := by decide +kernel
theorem dX3_end_6 : decode cX3_end 6 = .ok (.iastore, 1) := by decide +kernel
theorem dX3_end_7 : decode cX3_end 7 = .ok (.aload_n 0, 1) := by decide +kernel
theorem dX3_end_8 : decode cX3_end 8 = .ok (.getfield 38, 3) := by decide +kernel
theorem dX3_end_11 : decode cX3_end 11 = .ok (.iload_n 1, 1) := by decide +kernel
theorem dX3_end_12 : decode cX3_end 12 = .ok (.iconst 0, 1) := by decide +kernel
theorem dX3_end_13 : decode cX3_end 13 = .ok (.iastore, 1) := by decide +kernel
theorem dX3_end_14 : decode cX3_end 14 = .ok (.aload_n 0, 1) := by decide +kernel
theorem dX3_end_15 : decode cX3_end 15 = .ok (.getfield 44, 3) := by decide +kernel
theorem dX3_end_18 : decode cX3_end 18 = .ok (.iload_n 1, 1) := by decide +kernel
theorem dX3_end_19 : decode cX3_end 19 = .ok (.iconst (-1), 1) := by decide +kernel
theorem dX3_end_20 : decode cX3_end 20 = .ok (.iastore, 1) := by decide +kernel
theorem dX3_end_21 : decode cX3_end 21 = .ok (.return_, 1) := by decide +kernel
theorem dX3_await_0 : decode cX3_await 0 = .ok (.aload_n 0, 1) := by decide +kernel
theorem dX3_await_1 : decode cX3_await 1 = .ok (.getfield 38, 3) := by decide +kernel
theorem dX3_await_4 : decode cX3_await 4 = .ok (.iload_n 1, 1) := by decide +kernel
theorem dX3_await_5 : decode cX3_await 5 = .ok (.iconst 0, 1) := by decide +kernel
theorem dX3_await_6 : decode cX3_await 6 = .ok (.iastore, 1) := by decide +kernel
theorem dX3_await_7 : decode cX3_await 7 = .ok (.aload_n 0, 1) := by decide +kernel
theorem dX3_await_8 : decode cX3_await 8 = .ok (.getfield 41, 3) := by decide +kernel
theorem dX3_await_11 : decode cX3_await 11 = .ok (.iload_n 1, 1) := by decide +kernel
theorem dX3_await_12 : decode cX3_await 12 = .ok (.iload_n 2, 1) := by decide +kernel
theorem dX3_await_13 : decode cX3_await 13 = .ok (.iastore, 1) := by decide +kernel
theorem dX3_await_14 : decode cX3_await 14 = .ok (.return_, 1) := by decide +kernel
theorem dX3_stepDoor_0 : decode cX3_stepDoor 0 = .ok (.aload_n 0, 1) := by decide +kernel
theorem dX3_stepDoor_1 : decode cX3_stepDoor 1 = .ok (.getfield 32, 3) := by decide +kernel
theorem dX3_stepDoor_4 : decode cX3_stepDoor 4 = .ok (.iload_n 1, 1) := by decide +kernel
theorem dX3_stepDoor_5 : decode cX3_stepDoor 5 = .ok (.iaload, 1) := by decide +kernel
theorem dX3_stepDoor_6 : decode cX3_stepDoor 6 = .ok (.bipush 8, 2) := by decide +kernel
theorem dX3_stepDoor_8 : decode cX3_stepDoor 8 = .ok (.aload_n 0, 1) := by decide +kernel
theorem dX3_stepDoor_9 : decode cX3_stepDoor 9 = .ok (.getfield 38, 3) := by decide +kernel
theorem dX3_stepDoor_12 : decode cX3_stepDoor 12 = .ok (.iload_n 1, 1) := by decide +kernel
theorem dX3_stepDoor_13 : decode cX3_stepDoor 13 = .ok (.iaload, 1) := by decide +kernel
theorem dX3_stepDoor_14 : decode cX3_stepDoor 14 = .ok (.imul, 1) := by decide +kernel
theorem dX3_stepDoor_15 : decode cX3_stepDoor 15 = .ok (.iadd, 1) := by decide +kernel
theorem dX3_stepDoor_16 : decode cX3_stepDoor 16 = .ok (.istore_n 2, 1) := by decide +kernel
theorem dX3_stepDoor_17 : decode cX3_stepDoor 17 = .ok (.aload_n 0, 1) := by decide +kernel
theorem dX3_stepDoor_18 : decode cX3_stepDoor 18 = .ok (.getfield 38, 3) := by decide +kernel
theorem dX3_stepDoor_21 : decode cX3_stepDoor 21 = .ok (.iload_n 1, 1) := by decide +kernel
theorem dX3_stepDoor_22 : decode cX3_stepDoor 22 = .ok (.iaload, 1) := by decide +kernel
theorem dX3_stepDoor_23 : decode cX3_stepDoor 23 = .ok (.ifCond .le 52, 3) := by decide +kernel
theorem dX3_stepDoor_26 : decode cX3_stepDoor 26 = .ok (.aload_n 0, 1) := by decide +kernel
theorem dX3_stepDoor_27 : decode cX3_stepDoor 27 = .ok (.getfield 32, 3) := by decide +kernel
theorem dX3_stepDoor_30 : decode cX3_stepDoor 30 = .ok (.iload_n 1, 1) := by decide +kernel
theorem dX3_stepDoor_31 : decode cX3_stepDoor 31 = .ok (.iload_n 2, 1) := by decide +kernel
theorem dX3_stepDoor_32 : decode cX3_stepDoor 32 = .ok (.aload_n 0, 1) := by decide +kernel
theorem dX3_stepDoor_33 : decode cX3_stepDoor 33 = .ok (.getfield 44, 3) := by decide +kernel
theorem dX3_stepDoor_36 : decode cX3_stepDoor 36 = .ok (.iload_n 1, 1) := by decide +kernel
theorem dX3_stepDoor_37 : decode cX3_stepDoor 37 = .ok (.iaload, 1) := by decide +kernel
theorem dX3_stepDoor_38 : decode cX3_stepDoor 38 = .ok (.if_icmp .le 12, 3) := by decide +kernel
theorem dX3_stepDoor_41 : decode cX3_stepDoor 41 = .ok (.aload_n 0, 1) := by decide +kernel
theorem dX3_stepDoor_42 : decode cX3_stepDoor 42 = .ok (.getfield 44, 3) := by decide +kernel
theorem dX3_stepDoor_45 : decode cX3_stepDoor 45 = .ok (.iload_n 1, 1) := by decide +kernel
theorem dX3_stepDoor_46 : decode cX3_stepDoor 46 = .ok (.iaload, 1) := by decide +kernel
theorem dX3_stepDoor_47 : decode cX3_stepDoor 47 = .ok (.goto 4, 3) := by decide +kernel
theorem dX3_stepDoor_50 : decode cX3_stepDoor 50 = .ok (.iload_n 2, 1) := by decide +kernel
theorem dX3_stepDoor_51 : decode cX3_stepDoor 51 = .ok (.iastore, 1) := by decide +kernel
theorem dX3_stepDoor_52 : decode cX3_stepDoor 52 = .ok (.aload_n 0, 1) := by decide +kernel
theorem dX3_stepDoor_53 : decode cX3_stepDoor 53 = .ok (.getfield 32, 3) := by decide +kernel
theorem dX3_stepDoor_56 : decode cX3_stepDoor 56 = .ok (.iload_n 1, 1) := by decide +kernel
theorem dX3_stepDoor_57 : decode cX3_stepDoor 57 = .ok (.iaload, 1) := by decide +kernel
theorem dX3_stepDoor_58 : decode cX3_stepDoor 58 = .ok (.aload_n 0, 1) := by decide +kernel
theorem dX3_stepDoor_59 : decode cX3_stepDoor 59 = .ok (.getfield 44, 3) := by decide +kernel
theorem dX3_stepDoor_62 : decode cX3_stepDoor 62 = .ok (.iload_n 1, 1) := by decide +kernel
theorem dX3_stepDoor_63 : decode cX3_stepDoor 63 = .ok (.iaload, 1) := by decide +kernel
theorem dX3_stepDoor_64 : decode cX3_stepDoor 64 = .ok (.if_icmp .ne 10, 3) := by decide +kernel
theorem dX3_stepDoor_67 : decode cX3_stepDoor 67 = .ok (.aload_n 0, 1) := by decide +kernel
theorem dX3_stepDoor_68 : decode cX3_stepDoor 68 = .ok (.iload_n 1, 1) := by decide +kernel
theorem dX3_stepDoor_69 : decode cX3_stepDoor 69 = .ok (.bipush 20, 2) := by decide +kernel
theorem dX3_stepDoor_71 : decode cX3_stepDoor 71 = .ok (.invokevirtual 91, 3) := by decide +kernel
theorem dX3_stepDoor_74 : decode cX3_stepDoor 74 = .ok (.return_, 1) := by decide +kernel
theorem dX3_stepDoor_75 : decode cX3_stepDoor 75 = .ok (.iload_n 2, 1) := by decide +kernel
theorem dX3_stepDoor_76 : decode cX3_stepDoor 76 = .ok (.aload_n 0, 1) := by decide +kernel
theorem dX3_stepDoor_77 : decode cX3_stepDoor 77 = .ok (.getfield 29, 3) := by decide +kernel
theorem dX3_stepDoor_80 : decode cX3_stepDoor 80 = .ok (.iload_n 1, 1) := by decide +kernel
theorem dX3_stepDoor_81 : decode cX3_stepDoor 81 = .ok (.iaload, 1) := by decide +kernel
theorem dX3_stepDoor_82 : decode cX3_stepDoor 82 = .ok (.if_icmp .ge 12, 3) := by decide +kernel
theorem dX3_stepDoor_85 : decode cX3_stepDoor 85 = .ok (.aload_n 0, 1) := by decide +kernel
theorem dX3_stepDoor_86 : decode cX3_stepDoor 86 = .ok (.getfield 29, 3) := by decide +kernel
theorem dX3_stepDoor_89 : decode cX3_stepDoor 89 = .ok (.iload_n 1, 1) := by decide +kernel
theorem dX3_stepDoor_90 : decode cX3_stepDoor 90 = .ok (.iaload, 1) := by decide +kernel
theorem dX3_stepDoor_91 : decode cX3_stepDoor 91 = .ok (.goto 4, 3) := by decide +kernel
theorem dX3_stepDoor_94 : decode cX3_stepDoor 94 = .ok (.iload_n 2, 1) := by decide +kernel
theorem dX3_stepDoor_95 : decode cX3_stepDoor 95 = .ok (.istore_n 2, 1) := by decide +kernel
theorem dX3_stepDoor_96 : decode cX3_stepDoor 96 = .ok (.aload_n 0, 1) := by decide +kernel
theorem dX3_stepDoor_97 : decode cX3_stepDoor 97 = .ok (.getfield 50, 3) := by decide +kernel
theorem dX3_stepDoor_100 : decode cX3_stepDoor 100 = .ok (.iload_n 1, 1) := by decide +kernel
theorem dX3_stepDoor_101 : decode cX3_stepDoor 101 = .ok (.if_icmp .ne 34, 3) := by decide +kernel
theorem dX3_stepDoor_104 : decode cX3_stepDoor 104 = .ok (.iload_n 2, 1) := by decide +kernel
theorem dX3_stepDoor_105 : decode cX3_stepDoor 105 = .ok (.aload_n 0, 1) := by decide +kernel
theorem dX3_stepDoor_106 : decode cX3_stepDoor 106 = .ok (.getfield 29, 3) := by decide +kernel
theorem dX3_stepDoor_109 : decode cX3_stepDoor 109 = .ok (.iload_n 1, 1) := by decide +kernel
theorem dX3_stepDoor_110 : decode cX3_stepDoor 110 = .ok (.iaload, 1) := by decide +kernel
theorem dX3_stepDoor_111 : decode cX3_stepDoor 111 = .ok (.isub, 1) := by decide +kernel
theorem dX3_stepDoor_112 : decode cX3_stepDoor 112 = .ok (.bipush 56, 2) := by decide +kernel
theorem dX3_stepDoor_114 : decode cX3_stepDoor 114 = .ok (.if_icmp .ge 21, 3) := by decide +kernel
theorem dX3_stepDoor_117 : decode cX3_stepDoor 117 = .ok (.aload_n 0, 1) := by decide +kernel
theorem dX3_stepDoor_118 : decode cX3_stepDoor 118 = .ok (.dup, 1) := by decide +kernel
theorem dX3_stepDoor_119 : decode cX3_stepDoor 119 = .ok (.getfield 73, 3) := by decide +kernel
theorem dX3_stepDoor_122 : decode cX3_stepDoor 122 = .ok (.iconst 1, 1) := by decide +kernel
theorem dX3_stepDoor_123 : decode cX3_stepDoor 123 = .ok (.iadd, 1) := by decide +kernel
theorem dX3_stepDoor_124 : decode cX3_stepDoor 124 = .ok (.putfield 73, 3) := by decide +kernel
theorem dX3_stepDoor_127 : decode cX3_stepDoor 127 = .ok (.aload_n 0, 1) := by decide +kernel
theorem dX3_stepDoor_128 : decode cX3_stepDoor 128 = .ok (.getfield 38, 3) := by decide +kernel
theorem dX3_stepDoor_131 : decode cX3_stepDoor 131 = .ok (.iload_n 1, 1) := by decide +kernel
theorem dX3_stepDoor_132 : decode cX3_stepDoor 132 = .ok (.iconst 1, 1) := by decide +kernel
theorem dX3_stepDoor_133 : decode cX3_stepDoor 133 = .ok (.iastore, 1) := by decide +kernel
theorem dX3_stepDoor_134 : decode cX3_stepDoor 134 = .ok (.return_, 1) := by decide +kernel
theorem dX3_stepDoor_135 : decode cX3_stepDoor 135 = .ok (.aload_n 0, 1) := by decide +kernel
theorem dX3_stepDoor_136 : decode cX3_stepDoor 136 = .ok (.getfield 32, 3) := by decide +kernel
theorem dX3_stepDoor_139 : decode cX3_stepDoor 139 = .ok (.iload_n 1, 1) := by decide +kernel
theorem dX3_stepDoor_140 : decode cX3_stepDoor 140 = .ok (.iload_n 2, 1) := by decide +kernel
theorem dX3_stepDoor_141 : decode cX3_stepDoor 141 = .ok (.iastore, 1) := by decide +kernel
theorem dX3_stepDoor_142 : decode cX3_stepDoor 142 = .ok (.iload_n 2, 1) := by decide +kernel
theorem dX3_stepDoor_143 : decode cX3_stepDoor 143 = .ok (.aload_n 0, 1) := by decide +kernel
theorem dX3_stepDoor_144 : decode cX3_stepDoor 144 = .ok (.getfield 29, 3) := by decide +kernel
theorem dX3_stepDoor_147 : decode cX3_stepDoor 147 = .ok (.iload_n 1, 1) := by decide +kernel
theorem dX3_stepDoor_148 : decode cX3_stepDoor 148 = .ok (.iaload, 1) := by decide +kernel
theorem dX3_stepDoor_149 : decode cX3_stepDoor 149 = .ok (.if_icmp .ne 8, 3) := by decide +kernel
theorem dX3_stepDoor_152 : decode cX3_stepDoor 152 = .ok (.aload_n 0, 1) := by decide +kernel
theorem dX3_stepDoor_153 : decode cX3_stepDoor 153 = .ok (.iload_n 1, 1) := by decide +kernel
theorem dX3_stepDoor_154 : decode cX3_stepDoor 154 = .ok (.invokevirtual 95, 3) := by decide +kernel
theorem dX3_stepDoor_157 : decode cX3_stepDoor 157 = .ok (.return_, 1) := by decide +kernel
theorem dX3_rise_0 : decode cX3_rise 0 = .ok (.aload_n 0, 1) := by decide +kernel
theorem dX3_rise_1 : decode cX3_rise 1 = .ok (.getfield 29, 3) := by decide +kernel
theorem dX3_rise_4 : decode cX3_rise 4 = .ok (.iload_n 1, 1) := by decide +kernel
theorem dX3_rise_5 : decode cX3_rise 5 = .ok (.iaload, 1) := by decide +kernel
theorem dX3_rise_6 : decode cX3_rise 6 = .ok (.iload_n 2, 1) := by decide +kernel
theorem dX3_rise_7 : decode cX3_rise 7 = .ok (.iadd, 1) := by decide +kernel
theorem dX3_rise_8 : decode cX3_rise 8 = .ok (.iload_n 3, 1) := by decide +kernel
theorem dX3_rise_9 : decode cX3_rise 9 = .ok (.if_icmp .le 7, 3) := by decide +kernel
theorem dX3_rise_12 : decode cX3_rise 12 = .ok (.iload_n 3, 1) := by decide +kernel
theorem dX3_rise_13 : decode cX3_rise 13 = .ok (.goto 11, 3) := by decide +kernel
theorem dX3_rise_16 : decode cX3_rise 16 = .ok (.aload_n 0, 1) := by decide +kernel
theorem dX3_rise_17 : decode cX3_rise 17 = .ok (.getfield 29, 3) := by decide +kernel
theorem dX3_rise_20 : decode cX3_rise 20 = .ok (.iload_n 1, 1) := by decide +kernel
theorem dX3_rise_21 : decode cX3_rise 21 = .ok (.iaload, 1) := by decide +kernel
theorem dX3_rise_22 : decode cX3_rise 22 = .ok (.iload_n 2, 1) := by decide +kernel
theorem dX3_rise_23 : decode cX3_rise 23 = .ok (.iadd, 1) := by decide +kernel
theorem dX3_rise_24 : decode cX3_rise 24 = .ok (.istore 4, 2) := by decide +kernel
theorem dX3_rise_26 : decode cX3_rise 26 = .ok (.aload_n 0, 1) := by decide +kernel
theorem dX3_rise_27 : decode cX3_rise 27 = .ok (.getfield 50, 3) := by decide +kernel
theorem dX3_rise_30 : decode cX3_rise 30 = .ok (.iload_n 1, 1) := by decide +kernel
theorem dX3_rise_31 : decode cX3_rise 31 = .ok (.if_icmp .ne 28, 3) := by decide +kernel
theorem dX3_rise_34 : decode cX3_rise 34 = .ok (.aload_n 0, 1) := by decide +kernel
theorem dX3_rise_35 : decode cX3_rise 35 = .ok (.getfield 32, 3) := by decide +kernel
theorem dX3_rise_38 : decode cX3_rise 38 = .ok (.iload_n 1, 1) := by decide +kernel
theorem dX3_rise_39 : decode cX3_rise 39 = .ok (.iaload, 1) := by decide +kernel
theorem dX3_rise_40 : decode cX3_rise 40 = .ok (.iload 4, 2) := by decide +kernel
theorem dX3_rise_42 : decode cX3_rise 42 = .ok (.isub, 1) := by decide +kernel
theorem dX3_rise_43 : decode cX3_rise 43 = .ok (.bipush 56, 2) := by decide +kernel
theorem dX3_rise_45 : decode cX3_rise 45 = .ok (.if_icmp .ge 14, 3) := by decide +kernel
theorem dX3_rise_48 : decode cX3_rise 48 = .ok (.aload_n 0, 1) := by decide +kernel
theorem dX3_rise_49 : decode cX3_rise 49 = .ok (.dup, 1) := by decide +kernel
theorem dX3_rise_50 : decode cX3_rise 50 = .ok (.getfield 73, 3) := by decide +kernel
theorem dX3_rise_53 : decode cX3_rise 53 = .ok (.iconst 1, 1) := by decide +kernel
theorem dX3_rise_54 : decode cX3_rise 54 = .ok (.iadd, 1) := by decide +kernel
theorem dX3_rise_55 : decode cX3_rise 55 = .ok (.putfield 73, 3) := by decide +kernel
theorem dX3_rise_58 : decode cX3_rise 58 = .ok (.return_, 1) := by decide +kernel
theorem dX3_rise_59 : decode cX3_rise 59 = .ok (.aload_n 0, 1) := by decide +kernel
theorem dX3_rise_60 : decode cX3_rise 60 = .ok (.getfield 29, 3) := by decide +kernel
theorem dX3_rise_63 : decode cX3_rise 63 = .ok (.iload_n 1, 1) := by decide +kernel
theorem dX3_rise_64 : decode cX3_rise 64 = .ok (.iload 4, 2) := by decide +kernel
theorem dX3_rise_66 : decode cX3_rise 66 = .ok (.iastore, 1) := by decide +kernel
theorem dX3_rise_67 : decode cX3_rise 67 = .ok (.iload 4, 2) := by decide +kernel
theorem dX3_rise_69 : decode cX3_rise 69 = .ok (.iload_n 3, 1) := by decide +kernel
theorem dX3_rise_70 : decode cX3_rise 70 = .ok (.if_icmp .ne 8, 3) := by decide +kernel
theorem dX3_rise_73 : decode cX3_rise 73 = .ok (.aload_n 0, 1) := by decide +kernel
theorem dX3_rise_74 : decode cX3_rise 74 = .ok (.iload_n 1, 1) := by decide +kernel
theorem dX3_rise_75 : decode cX3_rise 75 = .ok (.invokevirtual 95, 3) := by decide +kernel
theorem dX3_rise_78 : decode cX3_rise 78 = .ok (.return_, 1) := by decide +kernel
theorem dX3_step_0 : decode cX3_step 0 = .ok (.aload_n 0, 1) := by decide +kernel
theorem dX3_step_1 : decode cX3_step 1 = .ok (.getfield 35, 3) := by decide +kernel
theorem dX3_step_4 : decode cX3_step 4 = .ok (.iload_n 1, 1) := by decide +kernel
theorem dX3_step_5 : decode cX3_step 5 = .ok (.iaload, 1) := by decide +kernel
theorem dX3_step_6 : decode cX3_step 6 = .ok (.ifCond .ne 11, 3) := by decide +kernel
theorem dX3_step_9 : decode cX3_step 9 = .ok (.aload_n 0, 1) := by decide +kernel
theorem dX3_step_10 : decode cX3_step 10 = .ok (.iload_n 1, 1) := by decide +kernel
theorem dX3_step_11 : decode cX3_step 11 = .ok (.invokevirtual 99, 3) := by decide +kernel
theorem dX3_step_14 : decode cX3_step 14 = .ok (.goto 114, 3) := by decide +kernel
theorem dX3_step_17 : decode cX3_step 17 = .ok (.aload_n 0, 1) := by decide +kernel
theorem dX3_step_18 : decode cX3_step 18 = .ok (.getfield 35, 3) := by decide +kernel
theorem dX3_step_21 : decode cX3_step 21 = .ok (.iload_n 1, 1) := by decide +kernel
theorem dX3_step_22 : decode cX3_step 22 = .ok (.iaload, 1) := by decide +kernel
theorem dX3_step_23 : decode cX3_step 23 = .ok (.iconst 2, 1) := by decide +kernel
theorem dX3_step_24 : decode cX3_step 24 = .ok (.if_icmp .ne 18, 3) := by decide +kernel
theorem dX3_step_27 : decode cX3_step 27 = .ok (.aload_n 0, 1) := by decide +kernel
theorem dX3_step_28 : decode cX3_step 28 = .ok (.iload_n 1, 1) := by decide +kernel
theorem dX3_step_29 : decode cX3_step 29 = .ok (.iconst 2, 1) := by decide +kernel
theorem dX3_step_30 : decode cX3_step 30 = .ok (.aload_n 0, 1) := by decide +kernel
theorem dX3_step_31 : decode cX3_step 31 = .ok (.getfield 44, 3) := by decide +kernel
theorem dX3_step_34 : decode cX3_step 34 = .ok (.iload_n 1, 1) := by decide +kernel
theorem dX3_step_35 : decode cX3_step 35 = .ok (.iaload, 1) := by decide +kernel
theorem dX3_step_36 : decode cX3_step 36 = .ok (.invokevirtual 102, 3) := by decide +kernel
theorem dX3_step_39 : decode cX3_step 39 = .ok (.goto 89, 3) := by decide +kernel
theorem dX3_step_42 : decode cX3_step 42 = .ok (.aload_n 0, 1) := by decide +kernel
theorem dX3_step_43 : decode cX3_step 43 = .ok (.getfield 38, 3) := by decide +kernel
theorem dX3_step_46 : decode cX3_step 46 = .ok (.iload_n 1, 1) := by decide +kernel
theorem dX3_step_47 : decode cX3_step 47 = .ok (.iaload, 1) := by decide +kernel
theorem dX3_step_48 : decode cX3_step 48 = .ok (.ifCond .le 18, 3) := by decide +kernel
theorem dX3_step_51 : decode cX3_step 51 = .ok (.aload_n 0, 1) := by decide +kernel
theorem dX3_step_52 : decode cX3_step 52 = .ok (.iload_n 1, 1) := by decide +kernel
theorem dX3_step_53 : decode cX3_step 53 = .ok (.iconst 4, 1) := by decide +kernel
theorem dX3_step_54 : decode cX3_step 54 = .ok (.aload_n 0, 1) := by decide +kernel
theorem dX3_step_55 : decode cX3_step 55 = .ok (.getfield 47, 3) := by decide +kernel
theorem dX3_step_58 : decode cX3_step 58 = .ok (.iload_n 1, 1) := by decide +kernel
theorem dX3_step_59 : decode cX3_step 59 = .ok (.iaload, 1) := by decide +kernel
theorem dX3_step_60 : decode cX3_step 60 = .ok (.invokevirtual 102, 3) := by decide +kernel
theorem dX3_step_63 : decode cX3_step 63 = .ok (.goto 65, 3) := by decide +kernel
theorem dX3_step_66 : decode cX3_step 66 = .ok (.aload_n 0, 1) := by decide +kernel
theorem dX3_step_67 : decode cX3_step 67 = .ok (.getfield 29, 3) := by decide +kernel
theorem dX3_step_70 : decode cX3_step 70 = .ok (.iload_n 1, 1) := by decide +kernel
theorem dX3_step_71 : decode cX3_step 71 = .ok (.aload_n 0, 1) := by decide +kernel
theorem dX3_step_72 : decode cX3_step 72 = .ok (.getfield 29, 3) := by decide +kernel
theorem dX3_step_75 : decode cX3_step 75 = .ok (.iload_n 1, 1) := by decide +kernel
theorem dX3_step_76 : decode cX3_step 76 = .ok (.iaload, 1) := by decide +kernel
theorem dX3_step_77 : decode cX3_step 77 = .ok (.iconst 4, 1) := by decide +kernel
theorem dX3_step_78 : decode cX3_step 78 = .ok (.isub, 1) := by decide +kernel
theorem dX3_step_79 : decode cX3_step 79 = .ok (.aload_n 0, 1) := by decide +kernel
theorem dX3_step_80 : decode cX3_step 80 = .ok (.getfield 44, 3) := by decide +kernel
theorem dX3_step_83 : decode cX3_step 83 = .ok (.iload_n 1, 1) := by decide +kernel
theorem dX3_step_84 : decode cX3_step 84 = .ok (.iaload, 1) := by decide +kernel
theorem dX3_step_85 : decode cX3_step 85 = .ok (.if_icmp .ge 12, 3) := by decide +kernel
theorem dX3_step_88 : decode cX3_step 88 = .ok (.aload_n 0, 1) := by decide +kernel
theorem dX3_step_89 : decode cX3_step 89 = .ok (.getfield 44, 3) := by decide +kernel
theorem dX3_step_92 : decode cX3_step 92 = .ok (.iload_n 1, 1) := by decide +kernel
theorem dX3_step_93 : decode cX3_step 93 = .ok (.iaload, 1) := by decide +kernel
theorem dX3_step_94 : decode cX3_step 94 = .ok (.goto 11, 3) := by decide +kernel
theorem dX3_step_97 : decode cX3_step 97 = .ok (.aload_n 0, 1) := by decide +kernel
theorem dX3_step_98 : decode cX3_step 98 = .ok (.getfield 29, 3) := by decide +kernel
theorem dX3_step_101 : decode cX3_step 101 = .ok (.iload_n 1, 1) := by decide +kernel
theorem dX3_step_102 : decode cX3_step 102 = .ok (.iaload, 1) := by decide +kernel
theorem dX3_step_103 : decode cX3_step 103 = .ok (.iconst 4, 1) := by decide +kernel
theorem dX3_step_104 : decode cX3_step 104 = .ok (.isub, 1) := by decide +kernel
theorem dX3_step_105 : decode cX3_step 105 = .ok (.iastore, 1) := by decide +kernel
theorem dX3_step_106 : decode cX3_step 106 = .ok (.aload_n 0, 1) := by decide +kernel
theorem dX3_step_107 : decode cX3_step 107 = .ok (.getfield 29, 3) := by decide +kernel
theorem dX3_step_110 : decode cX3_step 110 = .ok (.iload_n 1, 1) := by decide +kernel
theorem dX3_step_111 : decode cX3_step 111 = .ok (.iaload, 1) := by decide +kernel
theorem dX3_step_112 : decode cX3_step 112 = .ok (.aload_n 0, 1) := by decide +kernel
theorem dX3_step_113 : decode cX3_step 113 = .ok (.getfield 44, 3) := by decide +kernel
theorem dX3_step_116 : decode cX3_step 116 = .ok (.iload_n 1, 1) := by decide +kernel
theorem dX3_step_117 : decode cX3_step 117 = .ok (.iaload, 1) := by decide +kernel
theorem dX3_step_118 : decode cX3_step 118 = .ok (.if_icmp .ne 10, 3) := by decide +kernel
theorem dX3_step_121 : decode cX3_step 121 = .ok (.aload_n 0, 1) := by decide +kernel
theorem dX3_step_122 : decode cX3_step 122 = .ok (.iload_n 1, 1) := by decide +kernel
theorem dX3_step_123 : decode cX3_step 123 = .ok (.bipush 30, 2) := by decide +kernel
theorem dX3_step_125 : decode cX3_step 125 = .ok (.invokevirtual 91, 3) := by decide +kernel
theorem dX3_step_128 : decode cX3_step 128 = .ok (.return_, 1) := by decide +kernel
theorem dX3_ticks_0 : decode cX3_ticks 0 = .ok (.aload_n 0, 1) := by decide +kernel
theorem dX3_ticks_1 : decode cX3_ticks 1 = .ok (.iconst 0, 1) := by decide +kernel
theorem dX3_ticks_2 : decode cX3_ticks 2 = .ok (.putfield 54, 3) := by decide +kernel
theorem dX3_ticks_5 : decode cX3_ticks 5 = .ok (.iload_n 1, 1) := by decide +kernel
theorem dX3_ticks_6 : decode cX3_ticks 6 = .ok (.ifCond .lt 10, 3) := by decide +kernel
theorem dX3_ticks_9 : decode cX3_ticks 9 = .ok (.iload_n 1, 1) := by decide +kernel
theorem dX3_ticks_10 : decode cX3_ticks 10 = .ok (.sipush 1000, 3) := by decide +kernel
theorem dX3_ticks_13 : decode cX3_ticks 13 = .ok (.if_icmp .le 5, 3) := by decide +kernel
theorem dX3_ticks_16 : decode cX3_ticks 16 = .ok (.iconst (-1), 1) := by decide +kernel
theorem dX3_ticks_17 : decode cX3_ticks 17 = .ok (.ireturn, 1) := by decide +kernel
theorem dX3_ticks_18 : decode cX3_ticks 18 = .ok (.iconst 0, 1) := by decide +kernel
theorem dX3_ticks_19 : decode cX3_ticks 19 = .ok (.istore_n 2, 1) := by decide +kernel
theorem dX3_ticks_20 : decode cX3_ticks 20 = .ok (.iload_n 2, 1) := by decide +kernel
theorem dX3_ticks_21 : decode cX3_ticks 21 = .ok (.iload_n 1, 1) := by decide +kernel
theorem dX3_ticks_22 : decode cX3_ticks 22 = .ok (.if_icmp .ge 113, 3) := by decide +kernel
theorem dX3_ticks_25 : decode cX3_ticks 25 = .ok (.aload_n 0, 1) := by decide +kernel
theorem dX3_ticks_26 : decode cX3_ticks 26 = .ok (.dup, 1) := by decide +kernel
theorem dX3_ticks_27 : decode cX3_ticks 27 = .ok (.getfield 70, 3) := by decide +kernel
theorem dX3_ticks_30 : decode cX3_ticks 30 = .ok (.iconst 1, 1) := by decide +kernel
theorem dX3_ticks_31 : decode cX3_ticks 31 = .ok (.iadd, 1) := by decide +kernel
theorem dX3_ticks_32 : decode cX3_ticks 32 = .ok (.putfield 70, 3) := by decide +kernel
theorem dX3_ticks_35 : decode cX3_ticks 35 = .ok (.iconst 0, 1) := by decide +kernel
theorem dX3_ticks_36 : decode cX3_ticks 36 = .ok (.istore_n 3, 1) := by decide +kernel
theorem dX3_ticks_37 : decode cX3_ticks 37 = .ok (.iload_n 3, 1) := by decide +kernel
theorem dX3_ticks_38 : decode cX3_ticks 38 = .ok (.aload_n 0, 1) := by decide +kernel
theorem dX3_ticks_39 : decode cX3_ticks 39 = .ok (.getfield 57, 3) := by decide +kernel
theorem dX3_ticks_42 : decode cX3_ticks 42 = .ok (.if_icmp .ge 87, 3) := by decide +kernel
theorem dX3_ticks_45 : decode cX3_ticks 45 = .ok (.aload_n 0, 1) := by decide +kernel
theorem dX3_ticks_46 : decode cX3_ticks 46 = .ok (.getfield 35, 3) := by decide +kernel
theorem dX3_ticks_49 : decode cX3_ticks 49 = .ok (.iload_n 3, 1) := by decide +kernel
theorem dX3_ticks_50 : decode cX3_ticks 50 = .ok (.iaload, 1) := by decide +kernel
theorem dX3_ticks_51 : decode cX3_ticks 51 = .ok (.ifCond .lt 58, 3) := by decide +kernel
theorem dX3_ticks_54 : decode cX3_ticks 54 = .ok (.aload_n 0, 1) := by decide +kernel
theorem dX3_ticks_55 : decode cX3_ticks 55 = .ok (.getfield 41, 3) := by decide +kernel
theorem dX3_ticks_58 : decode cX3_ticks 58 = .ok (.iload_n 3, 1) := by decide +kernel
theorem dX3_ticks_59 : decode cX3_ticks 59 = .ok (.iaload, 1) := by decide +kernel
theorem dX3_ticks_60 : decode cX3_ticks 60 = .ok (.ifCond .le 49, 3) := by decide +kernel
theorem dX3_ticks_63 : decode cX3_ticks 63 = .ok (.aload_n 0, 1) := by decide +kernel
theorem dX3_ticks_64 : decode cX3_ticks 64 = .ok (.getfield 41, 3) := by decide +kernel
theorem dX3_ticks_67 : decode cX3_ticks 67 = .ok (.iload_n 3, 1) := by decide +kernel
theorem dX3_ticks_68 : decode cX3_ticks 68 = .ok (.dup2, 1) := by decide +kernel
theorem dX3_ticks_69 : decode cX3_ticks 69 = .ok (.iaload, 1) := by decide +kernel
theorem dX3_ticks_70 : decode cX3_ticks 70 = .ok (.iconst 1, 1) := by decide +kernel
theorem dX3_ticks_71 : decode cX3_ticks 71 = .ok (.isub, 1) := by decide +kernel
theorem dX3_ticks_72 : decode cX3_ticks 72 = .ok (.iastore, 1) := by decide +kernel
theorem dX3_ticks_73 : decode cX3_ticks 73 = .ok (.aload_n 0, 1) := by decide +kernel
theorem dX3_ticks_74 : decode cX3_ticks 74 = .ok (.getfield 38, 3) := by decide +kernel
theorem dX3_ticks_77 : decode cX3_ticks 77 = .ok (.iload_n 3, 1) := by decide +kernel
theorem dX3_ticks_78 : decode cX3_ticks 78 = .ok (.aload_n 0, 1) := by decide +kernel
theorem dX3_ticks_79 : decode cX3_ticks 79 = .ok (.getfield 41, 3) := by decide +kernel
theorem dX3_ticks_82 : decode cX3_ticks 82 = .ok (.iload_n 3, 1) := by decide +kernel
theorem dX3_ticks_83 : decode cX3_ticks 83 = .ok (.iaload, 1) := by decide +kernel
theorem dX3_ticks_84 : decode cX3_ticks 84 = .ok (.ifCond .le 7, 3) := by decide +kernel
theorem dX3_ticks_87 : decode cX3_ticks 87 = .ok (.iconst 0, 1) := by decide +kernel
theorem dX3_ticks_88 : decode cX3_ticks 88 = .ok (.goto 17, 3) := by decide +kernel
theorem dX3_ticks_91 : decode cX3_ticks 91 = .ok (.aload_n 0, 1) := by decide +kernel
theorem dX3_ticks_92 : decode cX3_ticks 92 = .ok (.getfield 35, 3) := by decide +kernel
theorem dX3_ticks_95 : decode cX3_ticks 95 = .ok (.iload_n 3, 1) := by decide +kernel
theorem dX3_ticks_96 : decode cX3_ticks 96 = .ok (.iaload, 1) := by decide +kernel
theorem dX3_ticks_97 : decode cX3_ticks 97 = .ok (.ifCond .ne 7, 3) := by decide +kernel
theorem dX3_ticks_100 : decode cX3_ticks 100 = .ok (.iconst (-1), 1) := by decide +kernel
theorem dX3_ticks_101 : decode cX3_ticks 101 = .ok (.goto 4, 3) := by decide +kernel
theorem dX3_ticks_104 : decode cX3_ticks 104 = .ok (.iconst 1, 1) := by decide +kernel
theorem dX3_ticks_105 : decode cX3_ticks 105 = .ok (.iastore, 1) := by decide +kernel
theorem dX3_ticks_106 : decode cX3_ticks 106 = .ok (.goto 17, 3) := by decide +kernel
theorem dX3_ticks_109 : decode cX3_ticks 109 = .ok (.aload_n 0, 1) := by decide +kernel
theorem dX3_ticks_110 : decode cX3_ticks 110 = .ok (.getfield 35, 3) := by decide +kernel
theorem dX3_ticks_113 : decode cX3_ticks 113 = .ok (.iload_n 3, 1) := by decide +kernel
theorem dX3_ticks_114 : decode cX3_ticks 114 = .ok (.iaload, 1) := by decide +kernel
theorem dX3_ticks_115 : decode cX3_ticks 115 = .ok (.ifCond .lt 8, 3) := by decide +kernel
theorem dX3_ticks_118 : decode cX3_ticks 118 = .ok (.aload_n 0, 1) := by decide +kernel
theorem dX3_ticks_119 : decode cX3_ticks 119 = .ok (.iload_n 3, 1) := by decide +kernel
theorem dX3_ticks_120 : decode cX3_ticks 120 = .ok (.invokevirtual 106, 3) := by decide +kernel
theorem dX3_ticks_123 : decode cX3_ticks 123 = .ok (.iinc 3 1, 3) := by decide +kernel
theorem dX3_ticks_126 : decode cX3_ticks 126 = .ok (.goto (-89), 3) := by decide +kernel
theorem dX3_ticks_129 : decode cX3_ticks 129 = .ok (.iinc 2 1, 3) := by decide +kernel
theorem dX3_ticks_132 : decode cX3_ticks 132 = .ok (.goto (-112), 3) := by decide +kernel
theorem dX3_ticks_135 : decode cX3_ticks 135 = .ok (.aload_n 0, 1) := by decide +kernel
theorem dX3_ticks_136 : decode cX3_ticks 136 = .ok (.getfield 70, 3) := by decide +kernel
theorem dX3_ticks_139 : decode cX3_ticks 139 = .ok (.ireturn, 1) := by decide +kernel
theorem dX3_many_0 : decode cX3_many 0 = .ok (.iconst 0, 1) := by decide +kernel
theorem dX3_many_1 : decode cX3_many 1 = .ok (.istore_n 1, 1) := by decide +kernel
theorem dX3_many_2 : decode cX3_many 2 = .ok (.iconst 0, 1) := by decide +kernel
theorem dX3_many_3 : decode cX3_many 3 = .ok (.istore_n 2, 1) := by decide +kernel
theorem dX3_many_4 : decode cX3_many 4 = .ok (.iload_n 2, 1) := by decide +kernel
theorem dX3_many_5 : decode cX3_many 5 = .ok (.aload_n 0, 1) := by decide +kernel
theorem dX3_many_6 : decode cX3_many 6 = .ok (.getfield 57, 3) := by decide +kernel
theorem dX3_many_9 : decode cX3_many 9 = .ok (.if_icmp .ge 26, 3) := by decide +kernel
theorem dX3_many_12 : decode cX3_many 12 = .ok (.iload_n 1, 1) := by decide +kernel
theorem dX3_many_13 : decode cX3_many 13 = .ok (.aload_n 0, 1) := by decide +kernel
theorem dX3_many_14 : decode cX3_many 14 = .ok (.getfield 35, 3) := by decide +kernel
theorem dX3_many_17 : decode cX3_many 17 = .ok (.iload_n 2, 1) := by decide +kernel
theorem dX3_many_18 : decode cX3_many 18 = .ok (.iaload, 1) := by decide +kernel
theorem dX3_many_19 : decode cX3_many 19 = .ok (.ifCond .lt 7, 3) := by decide +kernel
theorem dX3_many_22 : decode cX3_many 22 = .ok (.iconst 1, 1) := by decide +kernel
theorem dX3_many_23 : decode cX3_many 23 = .ok (.goto 4, 3) := by decide +kernel
theorem dX3_many_26 : decode cX3_many 26 = .ok (.iconst 0, 1) := by decide +kernel
theorem dX3_many_27 : decode cX3_many 27 = .ok (.iadd, 1) := by decide +kernel
theorem dX3_many_28 : decode cX3_many 28 = .ok (.istore_n 1, 1) := by decide +kernel
theorem dX3_many_29 : decode cX3_many 29 = .ok (.iinc 2 1, 3) := by decide +kernel
theorem dX3_many_32 : decode cX3_many 32 = .ok (.goto (-28), 3) := by decide +kernel
theorem dX3_many_35 : decode cX3_many 35 = .ok (.iload_n 1, 1) := by decide +kernel
theorem dX3_many_36 : decode cX3_many 36 = .ok (.ireturn, 1) := by decide +kernel
theorem dX3_lightOf_0 : decode cX3_lightOf 0 = .ok (.aload_n 0, 1) := by decide +kernel
theorem dX3_lightOf_1 : decode cX3_lightOf 1 = .ok (.getfield 16, 3) := by decide +kernel
theorem dX3_lightOf_4 : decode cX3_lightOf 4 = .ok (.iload_n 1, 1) := by decide +kernel
theorem dX3_lightOf_5 : decode cX3_lightOf 5 = .ok (.iaload, 1) := by decide +kernel
theorem dX3_lightOf_6 : decode cX3_lightOf 6 = .ok (.istore_n 2, 1) := by decide +kernel
theorem dX3_lightOf_7 : decode cX3_lightOf 7 = .ok (.iload_n 2, 1) := by decide +kernel
theorem dX3_lightOf_8 : decode cX3_lightOf 8 = .ok (.aload_n 0, 1) := by decide +kernel
theorem dX3_lightOf_9 : decode cX3_lightOf 9 = .ok (.invokevirtual 109, 3) := by decide +kernel
theorem dX3_lightOf_12 : decode cX3_lightOf 12 = .ok (.isub, 1) := by decide +kernel
theorem dX3_lightOf_13 : decode cX3_lightOf 13 = .ok (.istore_n 3, 1) := by decide +kernel
theorem dX3_lightOf_14 : decode cX3_lightOf 14 = .ok (.aload_n 0, 1) := by decide +kernel
theorem dX3_lightOf_15 : decode cX3_lightOf 15 = .ok (.getfield 19, 3) := by decide +kernel
theorem dX3_lightOf_18 : decode cX3_lightOf 18 = .ok (.iload_n 1, 1) := by decide +kernel
theorem dX3_lightOf_19 : decode cX3_lightOf 19 = .ok (.iaload, 1) := by decide +kernel
theorem dX3_lightOf_20 : decode cX3_lightOf 20 = .ok (.tableswitch 75 1 3 #[28, 47, 65], 28) := by decide +kernel
theorem dX3_lightOf_48 : decode cX3_lightOf 48 = .ok (.aload_n 0, 1) := by decide +kernel
theorem dX3_lightOf_49 : decode cX3_lightOf 49 = .ok (.getfield 70, 3) := by decide +kernel
theorem dX3_lightOf_52 : decode cX3_lightOf 52 = .ok (.bipush 16, 2) := by decide +kernel
theorem dX3_lightOf_54 : decode cX3_lightOf 54 = .ok (.irem, 1) := by decide +kernel
theorem dX3_lightOf_55 : decode cX3_lightOf 55 = .ok (.iconst 4, 1) := by decide +kernel
theorem dX3_lightOf_56 : decode cX3_lightOf 56 = .ok (.if_icmp .ge 7, 3) := by decide +kernel
theorem dX3_lightOf_59 : decode cX3_lightOf 59 = .ok (.iload_n 2, 1) := by decide +kernel
theorem dX3_lightOf_60 : decode cX3_lightOf 60 = .ok (.goto 6, 3) := by decide +kernel
theorem dX3_lightOf_63 : decode cX3_lightOf 63 = .ok (.iload_n 2, 1) := by decide +kernel
theorem dX3_lightOf_64 : decode cX3_lightOf 64 = .ok (.iconst 2, 1) := by decide +kernel
theorem dX3_lightOf_65 : decode cX3_lightOf 65 = .ok (.idiv, 1) := by decide +kernel
theorem dX3_lightOf_66 : decode cX3_lightOf 66 = .ok (.ireturn, 1) := by decide +kernel
theorem dX3_lightOf_67 : decode cX3_lightOf 67 = .ok (.aload_n 0, 1) := by decide +kernel
theorem dX3_lightOf_68 : decode cX3_lightOf 68 = .ok (.getfield 70, 3) := by decide +kernel
theorem dX3_lightOf_71 : decode cX3_lightOf 71 = .ok (.bipush 32, 2) := by decide +kernel
theorem dX3_lightOf_73 : decode cX3_lightOf 73 = .ok (.idiv, 1) := by decide +kernel
theorem dX3_lightOf_74 : decode cX3_lightOf 74 = .ok (.iconst 2, 1) := by decide +kernel
theorem dX3_lightOf_75 : decode cX3_lightOf 75 = .ok (.irem, 1) := by decide +kernel
theorem dX3_lightOf_76 : decode cX3_lightOf 76 = .ok (.ifCond .ne 7, 3) := by decide +kernel
theorem dX3_lightOf_79 : decode cX3_lightOf 79 = .ok (.iload_n 2, 1) := by decide +kernel
theorem dX3_lightOf_80 : decode cX3_lightOf 80 = .ok (.goto 4, 3) := by decide +kernel
theorem dX3_lightOf_83 : decode cX3_lightOf 83 = .ok (.iconst 0, 1) := by decide +kernel
theorem dX3_lightOf_84 : decode cX3_lightOf 84 = .ok (.ireturn, 1) := by decide +kernel
theorem dX3_lightOf_85 : decode cX3_lightOf 85 = .ok (.iload_n 3, 1) := by decide +kernel
theorem dX3_lightOf_86 : decode cX3_lightOf 86 = .ok (.ifCond .ge 7, 3) := by decide +kernel
theorem dX3_lightOf_89 : decode cX3_lightOf 89 = .ok (.iconst 0, 1) := by decide +kernel
theorem dX3_lightOf_90 : decode cX3_lightOf 90 = .ok (.goto 4, 3) := by decide +kernel
theorem dX3_lightOf_93 : decode cX3_lightOf 93 = .ok (.iload_n 3, 1) := by decide +kernel
theorem dX3_lightOf_94 : decode cX3_lightOf 94 = .ok (.ireturn, 1) := by decide +kernel
theorem dX3_lightOf_95 : decode cX3_lightOf 95 = .ok (.iload_n 2, 1) := by decide +kernel
theorem dX3_lightOf_96 : decode cX3_lightOf 96 = .ok (.ireturn, 1) := by decide +kernel
theorem dX3_of_0 : decode cX3_of 0 = .ok (.aload_n 0, 1) := by decide +kernel
theorem dX3_of_1 : decode cX3_of 1 = .ok (.iconst 0, 1) := by decide +kernel
theorem dX3_of_2 : decode cX3_of 2 = .ok (.putfield 54, 3) := by decide +kernel
theorem dX3_of_5 : decode cX3_of 5 = .ok (.aload_n 0, 1) := by decide +kernel
theorem dX3_of_6 : decode cX3_of 6 = .ok (.iload_n 1, 1) := by decide +kernel
theorem dX3_of_7 : decode cX3_of 7 = .ok (.invokevirtual 63, 3) := by decide +kernel
theorem dX3_of_10 : decode cX3_of 10 = .ok (.ifCond .ne 6, 3) := by decide +kernel
theorem dX3_of_13 : decode cX3_of 13 = .ok (.ldc 76, 2) := by decide +kernel
theorem dX3_of_15 : decode cX3_of 15 = .ok (.ireturn, 1) := by decide +kernel
theorem dX3_of_16 : decode cX3_of 16 = .ok (.iload_n 2, 1) := by decide +kernel
theorem dX3_of_17 : decode cX3_of 17 = .ok (.tableswitch 121 0 9 #[55, 62, 69, 75, 82, 89, 96, 102, 108, 114], 55) := by decide +kernel
theorem dX3_of_72 : decode cX3_of 72 = .ok (.aload_n 0, 1) := by decide +kernel
theorem dX3_of_73 : decode cX3_of 73 = .ok (.getfield 29, 3) := by decide +kernel
theorem dX3_of_76 : decode cX3_of 76 = .ok (.iload_n 1, 1) := by decide +kernel
theorem dX3_of_77 : decode cX3_of 77 = .ok (.iaload, 1) := by decide +kernel
theorem dX3_of_78 : decode cX3_of 78 = .ok (.ireturn, 1) := by decide +kernel
theorem dX3_of_79 : decode cX3_of 79 = .ok (.aload_n 0, 1) := by decide +kernel
theorem dX3_of_80 : decode cX3_of 80 = .ok (.getfield 32, 3) := by decide +kernel
theorem dX3_of_83 : decode cX3_of 83 = .ok (.iload_n 1, 1) := by decide +kernel
theorem dX3_of_84 : decode cX3_of 84 = .ok (.iaload, 1) := by decide +kernel
theorem dX3_of_85 : decode cX3_of 85 = .ok (.ireturn, 1) := by decide +kernel
theorem dX3_of_86 : decode cX3_of 86 = .ok (.aload_n 0, 1) := by decide +kernel
theorem dX3_of_87 : decode cX3_of 87 = .ok (.iload_n 1, 1) := by decide +kernel
theorem dX3_of_88 : decode cX3_of 88 = .ok (.invokevirtual 113, 3) := by decide +kernel
theorem dX3_of_91 : decode cX3_of 91 = .ok (.ireturn, 1) := by decide +kernel
theorem dX3_of_92 : decode cX3_of 92 = .ok (.aload_n 0, 1) := by decide +kernel
theorem dX3_of_93 : decode cX3_of 93 = .ok (.getfield 35, 3) := by decide +kernel
theorem dX3_of_96 : decode cX3_of 96 = .ok (.iload_n 1, 1) := by decide +kernel
theorem dX3_of_97 : decode cX3_of 97 = .ok (.iaload, 1) := by decide +kernel
theorem dX3_of_98 : decode cX3_of 98 = .ok (.ireturn, 1) := by decide +kernel
theorem dX3_of_99 : decode cX3_of 99 = .ok (.aload_n 0, 1) := by decide +kernel
theorem dX3_of_100 : decode cX3_of 100 = .ok (.getfield 38, 3) := by decide +kernel
theorem dX3_of_103 : decode cX3_of 103 = .ok (.iload_n 1, 1) := by decide +kernel
theorem dX3_of_104 : decode cX3_of 104 = .ok (.iaload, 1) := by decide +kernel
theorem dX3_of_105 : decode cX3_of 105 = .ok (.ireturn, 1) := by decide +kernel
theorem dX3_of_106 : decode cX3_of 106 = .ok (.aload_n 0, 1) := by decide +kernel
theorem dX3_of_107 : decode cX3_of 107 = .ok (.getfield 41, 3) := by decide +kernel
theorem dX3_of_110 : decode cX3_of 110 = .ok (.iload_n 1, 1) := by decide +kernel
theorem dX3_of_111 : decode cX3_of 111 = .ok (.iaload, 1) := by decide +kernel
theorem dX3_of_112 : decode cX3_of 112 = .ok (.ireturn, 1) := by decide +kernel
theorem dX3_of_113 : decode cX3_of 113 = .ok (.aload_n 0, 1) := by decide +kernel
theorem dX3_of_114 : decode cX3_of 114 = .ok (.iload_n 1, 1) := by decide +kernel
theorem dX3_of_115 : decode cX3_of 115 = .ok (.invokevirtual 84, 3) := by decide +kernel
theorem dX3_of_118 : decode cX3_of 118 = .ok (.ireturn, 1) := by decide +kernel
theorem dX3_of_119 : decode cX3_of 119 = .ok (.aload_n 0, 1) := by decide +kernel
theorem dX3_of_120 : decode cX3_of 120 = .ok (.iload_n 1, 1) := by decide +kernel
theorem dX3_of_121 : decode cX3_of 121 = .ok (.invokevirtual 81, 3) := by decide +kernel
theorem dX3_of_124 : decode cX3_of 124 = .ok (.ireturn, 1) := by decide +kernel
theorem dX3_of_125 : decode cX3_of 125 = .ok (.aload_n 0, 1) := by decide +kernel
theorem dX3_of_126 : decode cX3_of 126 = .ok (.iload_n 1, 1) := by decide +kernel
theorem dX3_of_127 : decode cX3_of 127 = .ok (.invokevirtual 77, 3) := by decide +kernel
theorem dX3_of_130 : decode cX3_of 130 = .ok (.ireturn, 1) := by decide +kernel
theorem dX3_of_131 : decode cX3_of 131 = .ok (.aload_n 0, 1) := by decide +kernel
theorem dX3_of_132 : decode cX3_of 132 = .ok (.getfield 44, 3) := by decide +kernel
theorem dX3_of_135 : decode cX3_of 135 = .ok (.iload_n 1, 1) := by decide +kernel
theorem dX3_of_136 : decode cX3_of 136 = .ok (.iaload, 1) := by decide +kernel
theorem dX3_of_137 : decode cX3_of 137 = .ok (.ireturn, 1) := by decide +kernel
theorem dX3_of_138 : decode cX3_of 138 = .ok (.ldc 76, 2) := by decide +kernel
theorem dX3_of_140 : decode cX3_of 140 = .ok (.ireturn, 1) := by decide +kernel
theorem dX3_are_0 : decode cX3_are 0 = .ok (.aload_n 0, 1) := by decide +kernel
theorem dX3_are_1 : decode cX3_are 1 = .ok (.iconst 0, 1) := by decide +kernel
theorem dX3_are_2 : decode cX3_are 2 = .ok (.putfield 54, 3) := by decide +kernel
theorem dX3_are_5 : decode cX3_are 5 = .ok (.aload_n 0, 1) := by decide +kernel
theorem dX3_are_6 : decode cX3_are 6 = .ok (.iload_n 1, 1) := by decide +kernel
theorem dX3_are_7 : decode cX3_are 7 = .ok (.invokevirtual 63, 3) := by decide +kernel
theorem dX3_are_10 : decode cX3_are 10 = .ok (.ifCond .eq 49, 3) := by decide +kernel
theorem dX3_are_13 : decode cX3_are 13 = .ok (.aload_n 0, 1) := by decide +kernel
theorem dX3_are_14 : decode cX3_are 14 = .ok (.iload_n 2, 1) := by decide +kernel
theorem dX3_are_15 : decode cX3_are 15 = .ok (.invokevirtual 63, 3) := by decide +kernel
theorem dX3_are_18 : decode cX3_are 18 = .ok (.ifCond .eq 41, 3) := by decide +kernel
theorem dX3_are_21 : decode cX3_are 21 = .ok (.aload_n 0, 1) := by decide +kernel
theorem dX3_are_22 : decode cX3_are 22 = .ok (.getfield 25, 3) := by decide +kernel
theorem dX3_are_25 : decode cX3_are 25 = .ok (.aload_n 0, 1) := by decide +kernel
theorem dX3_are_26 : decode cX3_are 26 = .ok (.iload_n 1, 1) := by decide +kernel
theorem dX3_are_27 : decode cX3_are 27 = .ok (.invokevirtual 63, 3) := by decide +kernel
theorem dX3_are_30 : decode cX3_are 30 = .ok (.ifCond .eq 20, 3) := by decide +kernel
theorem dX3_are_33 : decode cX3_are 33 = .ok (.aload_n 0, 1) := by decide +kernel
theorem dX3_are_34 : decode cX3_are 34 = .ok (.iload_n 2, 1) := by decide +kernel
theorem dX3_are_35 : decode cX3_are 35 = .ok (.invokevirtual 63, 3) := by decide +kernel
theorem dX3_are_38 : decode cX3_are 38 = .ok (.ifCond .eq 12, 3) := by decide +kernel
theorem dX3_are_41 : decode cX3_are 41 = .ok (.bipush 32, 2) := by decide +kernel
theorem dX3_are_43 : decode cX3_are 43 = .ok (.iload_n 1, 1) := by decide +kernel
theorem dX3_are_44 : decode cX3_are 44 = .ok (.imul, 1) := by decide +kernel
theorem dX3_are_45 : decode cX3_are 45 = .ok (.iload_n 2, 1) := by decide +kernel
theorem dX3_are_46 : decode cX3_are 46 = .ok (.iadd, 1) := by decide +kernel
theorem dX3_are_47 : decode cX3_are 47 = .ok (.goto 4, 3) := by decide +kernel
theorem dX3_are_50 : decode cX3_are 50 = .ok (.iconst 0, 1) := by decide +kernel
theorem dX3_are_51 : decode cX3_are 51 = .ok (.baload, 1) := by decide +kernel
theorem dX3_are_52 : decode cX3_are 52 = .ok (.ifCond .eq 7, 3) := by decide +kernel
theorem dX3_are_55 : decode cX3_are 55 = .ok (.iconst 1, 1) := by decide +kernel
theorem dX3_are_56 : decode cX3_are 56 = .ok (.goto 4, 3) := by decide +kernel
theorem dX3_are_59 : decode cX3_are 59 = .ok (.iconst 0, 1) := by decide +kernel
theorem dX3_are_60 : decode cX3_are 60 = .ok (.ireturn, 1) := by decide +kernel
theorem dX3_open_0 : decode cX3_open 0 = .ok (.aload_n 0, 1) := by decide +kernel
theorem dX3_open_1 : decode cX3_open 1 = .ok (.iload_n 1, 1) := by decide +kernel
theorem dX3_open_2 : decode cX3_open 2 = .ok (.iload_n 2, 1) := by decide +kernel
theorem dX3_open_3 : decode cX3_open 3 = .ok (.invokevirtual 116, 3) := by decide +kernel
theorem dX3_open_6 : decode cX3_open 6 = .ok (.ifCond .ne 5, 3) := by decide +kernel
theorem dX3_open_9 : decode cX3_open 9 = .ok (.iconst 0, 1) := by decide +kernel
theorem dX3_open_10 : decode cX3_open 10 = .ok (.ireturn, 1) := by decide +kernel
theorem dX3_open_11 : decode cX3_open 11 = .ok (.aload_n 0, 1) := by decide +kernel
theorem dX3_open_12 : decode cX3_open 12 = .ok (.getfield 32, 3) := by decide +kernel
theorem dX3_open_15 : decode cX3_open 15 = .ok (.iload_n 1, 1) := by decide +kernel
theorem dX3_open_16 : decode cX3_open 16 = .ok (.iaload, 1) := by decide +kernel
theorem dX3_open_17 : decode cX3_open 17 = .ok (.aload_n 0, 1) := by decide +kernel
theorem dX3_open_18 : decode cX3_open 18 = .ok (.getfield 32, 3) := by decide +kernel
theorem dX3_open_21 : decode cX3_open 21 = .ok (.iload_n 2, 1) := by decide +kernel
theorem dX3_open_22 : decode cX3_open 22 = .ok (.iaload, 1) := by decide +kernel
theorem dX3_open_23 : decode cX3_open 23 = .ok (.if_icmp .ge 12, 3) := by decide +kernel
theorem dX3_open_26 : decode cX3_open 26 = .ok (.aload_n 0, 1) := by decide +kernel
theorem dX3_open_27 : decode cX3_open 27 = .ok (.getfield 32, 3) := by decide +kernel
theorem dX3_open_30 : decode cX3_open 30 = .ok (.iload_n 1, 1) := by decide +kernel
theorem dX3_open_31 : decode cX3_open 31 = .ok (.iaload, 1) := by decide +kernel
theorem dX3_open_32 : decode cX3_open 32 = .ok (.goto 9, 3) := by decide +kernel
theorem dX3_open_35 : decode cX3_open 35 = .ok (.aload_n 0, 1) := by decide +kernel
theorem dX3_open_36 : decode cX3_open 36 = .ok (.getfield 32, 3) := by decide +kernel
theorem dX3_open_39 : decode cX3_open 39 = .ok (.iload_n 2, 1) := by decide +kernel
theorem dX3_open_40 : decode cX3_open 40 = .ok (.iaload, 1) := by decide +kernel
theorem dX3_open_41 : decode cX3_open 41 = .ok (.istore_n 3, 1) := by decide +kernel
theorem dX3_open_42 : decode cX3_open 42 = .ok (.aload_n 0, 1) := by decide +kernel
theorem dX3_open_43 : decode cX3_open 43 = .ok (.getfield 29, 3) := by decide +kernel
theorem dX3_open_46 : decode cX3_open 46 = .ok (.iload_n 1, 1) := by decide +kernel
theorem dX3_open_47 : decode cX3_open 47 = .ok (.iaload, 1) := by decide +kernel
theorem dX3_open_48 : decode cX3_open 48 = .ok (.aload_n 0, 1) := by decide +kernel
theorem dX3_open_49 : decode cX3_open 49 = .ok (.getfield 29, 3) := by decide +kernel
theorem dX3_open_52 : decode cX3_open 52 = .ok (.iload_n 2, 1) := by decide +kernel
theorem dX3_open_53 : decode cX3_open 53 = .ok (.iaload, 1) := by decide +kernel
theorem dX3_open_54 : decode cX3_open 54 = .ok (.if_icmp .le 12, 3) := by decide +kernel
theorem dX3_open_57 : decode cX3_open 57 = .ok (.aload_n 0, 1) := by decide +kernel
theorem dX3_open_58 : decode cX3_open 58 = .ok (.getfield 29, 3) := by decide +kernel
theorem dX3_open_61 : decode cX3_open 61 = .ok (.iload_n 1, 1) := by decide +kernel
theorem dX3_open_62 : decode cX3_open 62 = .ok (.iaload, 1) := by decide +kernel
theorem dX3_open_63 : decode cX3_open 63 = .ok (.goto 9, 3) := by decide +kernel
theorem dX3_open_66 : decode cX3_open 66 = .ok (.aload_n 0, 1) := by decide +kernel
theorem dX3_open_67 : decode cX3_open 67 = .ok (.getfield 29, 3) := by decide +kernel
theorem dX3_open_70 : decode cX3_open 70 = .ok (.iload_n 2, 1) := by decide +kernel
theorem dX3_open_71 : decode cX3_open 71 = .ok (.iaload, 1) := by decide +kernel
theorem dX3_open_72 : decode cX3_open 72 = .ok (.istore 4, 2) := by decide +kernel
theorem dX3_open_74 : decode cX3_open 74 = .ok (.aload_n 0, 1) := by decide +kernel
theorem dX3_open_75 : decode cX3_open 75 = .ok (.getfield 29, 3) := by decide +kernel
theorem dX3_open_78 : decode cX3_open 78 = .ok (.iload_n 2, 1) := by decide +kernel
theorem dX3_open_79 : decode cX3_open 79 = .ok (.iaload, 1) := by decide +kernel
theorem dX3_open_80 : decode cX3_open 80 = .ok (.aload_n 0, 1) := by decide +kernel
theorem dX3_open_81 : decode cX3_open 81 = .ok (.getfield 29, 3) := by decide +kernel
theorem dX3_open_84 : decode cX3_open 84 = .ok (.iload_n 1, 1) := by decide +kernel
theorem dX3_open_85 : decode cX3_open 85 = .ok (.iaload, 1) := by decide +kernel
theorem dX3_open_86 : decode cX3_open 86 = .ok (.isub, 1) := by decide +kernel
theorem dX3_open_87 : decode cX3_open 87 = .ok (.bipush 24, 2) := by decide +kernel
theorem dX3_open_89 : decode cX3_open 89 = .ok (.if_icmp .gt 16, 3) := by decide +kernel
theorem dX3_open_92 : decode cX3_open 92 = .ok (.iload_n 3, 1) := by decide +kernel
theorem dX3_open_93 : decode cX3_open 93 = .ok (.iload 4, 2) := by decide +kernel
theorem dX3_open_95 : decode cX3_open 95 = .ok (.isub, 1) := by decide +kernel
theorem dX3_open_96 : decode cX3_open 96 = .ok (.bipush 56, 2) := by decide +kernel
theorem dX3_open_98 : decode cX3_open 98 = .ok (.if_icmp .lt 7, 3) := by decide +kernel
theorem dX3_open_101 : decode cX3_open 101 = .ok (.iconst 1, 1) := by decide +kernel
theorem dX3_open_102 : decode cX3_open 102 = .ok (.goto 4, 3) := by decide +kernel
theorem dX3_open_105 : decode cX3_open 105 = .ok (.iconst 0, 1) := by decide +kernel
theorem dX3_open_106 : decode cX3_open 106 = .ok (.ireturn, 1) := by decide +kernel
theorem dX3_look_0 : decode cX3_look 0 = .ok (.aload_n 0, 1) := by decide +kernel
theorem dX3_look_1 : decode cX3_look 1 = .ok (.iconst 0, 1) := by decide +kernel
theorem dX3_look_2 : decode cX3_look 2 = .ok (.putfield 54, 3) := by decide +kernel
theorem dX3_look_5 : decode cX3_look 5 = .ok (.iload_n 1, 1) := by decide +kernel
theorem dX3_look_6 : decode cX3_look 6 = .ok (.tableswitch 68 0 5 #[38, 43, 48, 53, 58, 63], 38) := by decide +kernel
theorem dX3_look_44 : decode cX3_look 44 = .ok (.aload_n 0, 1) := by decide +kernel
theorem dX3_look_45 : decode cX3_look 45 = .ok (.getfield 57, 3) := by decide +kernel
theorem dX3_look_48 : decode cX3_look 48 = .ok (.ireturn, 1) := by decide +kernel
theorem dX3_look_49 : decode cX3_look 49 = .ok (.aload_n 0, 1) := by decide +kernel
theorem dX3_look_50 : decode cX3_look 50 = .ok (.getfield 67, 3) := by decide +kernel
theorem dX3_look_53 : decode cX3_look 53 = .ok (.ireturn, 1) := by decide +kernel
theorem dX3_look_54 : decode cX3_look 54 = .ok (.aload_n 0, 1) := by decide +kernel
theorem dX3_look_55 : decode cX3_look 55 = .ok (.getfield 70, 3) := by decide +kernel
theorem dX3_look_58 : decode cX3_look 58 = .ok (.ireturn, 1) := by decide +kernel
theorem dX3_look_59 : decode cX3_look 59 = .ok (.aload_n 0, 1) := by decide +kernel
theorem dX3_look_60 : decode cX3_look 60 = .ok (.invokevirtual 109, 3) := by decide +kernel
theorem dX3_look_63 : decode cX3_look 63 = .ok (.ireturn, 1) := by decide +kernel
theorem dX3_look_64 : decode cX3_look 64 = .ok (.aload_n 0, 1) := by decide +kernel
theorem dX3_look_65 : decode cX3_look 65 = .ok (.getfield 50, 3) := by decide +kernel
theorem dX3_look_68 : decode cX3_look 68 = .ok (.ireturn, 1) := by decide +kernel
theorem dX3_look_69 : decode cX3_look 69 = .ok (.aload_n 0, 1) := by decide +kernel
theorem dX3_look_70 : decode cX3_look 70 = .ok (.getfield 73, 3) := by decide +kernel
theorem dX3_look_73 : decode cX3_look 73 = .ok (.ireturn, 1) := by decide +kernel
theorem dX3_look_74 : decode cX3_look 74 = .ok (.iconst (-1), 1) := by decide +kernel
theorem dX3_look_75 : decode cX3_look 75 = .ok (.ireturn, 1) := by decide +kernel
