theorem dX3_init_0 : decode cX3_init 0 = .ok (.aload_n 0, 1) := by decide +kernel
theorem dX3_init_1 : decode cX3_init 1 = .ok (.invokespecial 1, 3) := by decide +kernel
theorem dX3_init_4 : decode cX3_init 4 = .ok (.aload_n 0, 1) := by decide +kernel
theorem dX3_init_5 : decode cX3_init 5 = .ok (.bipush 32, 2) := by decide +kernel
theorem dX3_init_7 : decode cX3_init 7 = .ok (.newarray .int, 2) := by decide +kernel
theorem dX3_init_9 : decode cX3_init 9 = .ok (.putfield 7, 3) := by decide +kernel
theorem dX3_init_12 : decode cX3_init 12 = .ok (.aload_n 0, 1) := by decide +kernel
theorem dX3_init_13 : decode cX3_init 13 = .ok (.bipush 32, 2) := by decide +kernel
theorem dX3_init_15 : decode cX3_init 15 = .ok (.newarray .int, 2) := by decide +kernel
theorem dX3_init_17 : decode cX3_init 17 = .ok (.putfield 13, 3) := by decide +kernel
theorem dX3_init_20 : decode cX3_init 20 = .ok (.aload_n 0, 1) := by decide +kernel
theorem dX3_init_21 : decode cX3_init 21 = .ok (.bipush 32, 2) := by decide +kernel
theorem dX3_init_23 : decode cX3_init 23 = .ok (.newarray .int, 2) := by decide +kernel
theorem dX3_init_25 : decode cX3_init 25 = .ok (.putfield 16, 3) := by decide +kernel
theorem dX3_init_28 : decode cX3_init 28 = .ok (.aload_n 0, 1) := by decide +kernel
theorem dX3_init_29 : decode cX3_init 29 = .ok (.bipush 32, 2) := by decide +kernel
theorem dX3_init_31 : decode cX3_init 31 = .ok (.newarray .int, 2) := by decide +kernel
theorem dX3_init_33 : decode cX3_init 33 = .ok (.putfield 19, 3) := by decide +kernel
theorem dX3_init_36 : decode cX3_init 36 = .ok (.aload_n 0, 1) := by decide +kernel
theorem dX3_init_37 : decode cX3_init 37 = .ok (.bipush 32, 2) := by decide +kernel
theorem dX3_init_39 : decode cX3_init 39 = .ok (.newarray .int, 2) := by decide +kernel
theorem dX3_init_41 : decode cX3_init 41 = .ok (.putfield 22, 3) := by decide +kernel
theorem dX3_init_44 : decode cX3_init 44 = .ok (.aload_n 0, 1) := by decide +kernel
theorem dX3_init_45 : decode cX3_init 45 = .ok (.sipush 1024, 3) := by decide +kernel
theorem dX3_init_48 : decode cX3_init 48 = .ok (.newarray .boolean, 2) := by decide +kernel
theorem dX3_init_50 : decode cX3_init 50 = .ok (.putfield 25, 3) := by decide +kernel
theorem dX3_init_53 : decode cX3_init 53 = .ok (.aload_n 0, 1) := by decide +kernel
theorem dX3_init_54 : decode cX3_init 54 = .ok (.bipush 32, 2) := by decide +kernel
theorem dX3_init_56 : decode cX3_init 56 = .ok (.newarray .int, 2) := by decide +kernel
theorem dX3_init_58 : decode cX3_init 58 = .ok (.putfield 29, 3) := by decide +kernel
theorem dX3_init_61 : decode cX3_init 61 = .ok (.aload_n 0, 1) := by decide +kernel
theorem dX3_init_62 : decode cX3_init 62 = .ok (.bipush 32, 2) := by decide +kernel
theorem dX3_init_64 : decode cX3_init 64 = .ok (.newarray .int, 2) := by decide +kernel
theorem dX3_init_66 : decode cX3_init 66 = .ok (.putfield 32, 3) := by decide +kernel
theorem dX3_init_69 : decode cX3_init 69 = .ok (.aload_n 0, 1) := by decide +kernel
theorem dX3_init_70 : decode cX3_init 70 = .ok (.bipush 32, 2) := by decide +kernel
theorem dX3_init_72 : decode cX3_init 72 = .ok (.newarray .int, 2) := by decide +kernel
theorem dX3_init_74 : decode cX3_init 74 = .ok (.putfield 35, 3) := by decide +kernel
theorem dX3_init_77 : decode cX3_init 77 = .ok (.aload_n 0, 1) := by decide +kernel
theorem dX3_init_78 : decode cX3_init 78 = .ok (.bipush 32, 2) := by decide +kernel
theorem dX3_init_80 : decode cX3_init 80 = .ok (.newarray .int, 2) := by decide +kernel
theorem dX3_init_82 : decode cX3_init 82 = .ok (.putfield 38, 3) := by decide +kernel
theorem dX3_init_85 : decode cX3_init 85 = .ok (.aload_n 0, 1) := by decide +kernel
theorem dX3_init_86 : decode cX3_init 86 = .ok (.bipush 32, 2) := by decide +kernel
theorem dX3_init_88 : decode cX3_init 88 = .ok (.newarray .int, 2) := by decide +kernel
theorem dX3_init_90 : decode cX3_init 90 = .ok (.putfield 41, 3) := by decide +kernel
theorem dX3_init_93 : decode cX3_init 93 = .ok (.aload_n 0, 1) := by decide +kernel
theorem dX3_init_94 : decode cX3_init 94 = .ok (.bipush 32, 2) := by decide +kernel
theorem dX3_init_96 : decode cX3_init 96 = .ok (.newarray .int, 2) := by decide +kernel
theorem dX3_init_98 : decode cX3_init 98 = .ok (.putfield 44, 3) := by decide +kernel
theorem dX3_init_101 : decode cX3_init 101 = .ok (.aload_n 0, 1) := by decide +kernel
theorem dX3_init_102 : decode cX3_init 102 = .ok (.bipush 32, 2) := by decide +kernel
theorem dX3_init_104 : decode cX3_init 104 = .ok (.newarray .int, 2) := by decide +kernel
theorem dX3_init_106 : decode cX3_init 106 = .ok (.putfield 47, 3) := by decide +kernel
theorem dX3_init_109 : decode cX3_init 109 = .ok (.aload_n 0, 1) := by decide +kernel
theorem dX3_init_110 : decode cX3_init 110 = .ok (.iconst (-1), 1) := by decide +kernel
theorem dX3_init_111 : decode cX3_init 111 = .ok (.putfield 50, 3) := by decide +kernel
theorem dX3_init_114 : decode cX3_init 114 = .ok (.return_, 1) := by decide +kernel
theorem dX3_isSector_0 : decode cX3_isSector 0 = .ok (.iload_n 1, 1) := by decide +kernel
theorem dX3_isSector_1 : decode cX3_isSector 1 = .ok (.ifCond .lt 15, 3) := by decide +kernel
theorem dX3_isSector_4 : decode cX3_isSector 4 = .ok (.iload_n 1, 1) := by decide +kernel
theorem dX3_isSector_5 : decode cX3_isSector 5 = .ok (.aload_n 0, 1) := by decide +kernel
theorem dX3_isSector_6 : decode cX3_isSector 6 = .ok (.getfield 57, 3) := by decide +kernel
theorem dX3_isSector_9 : decode cX3_isSector 9 = .ok (.if_icmp .ge 7, 3) := by decide +kernel
theorem dX3_isSector_12 : decode cX3_isSector 12 = .ok (.iconst 1, 1) := by decide +kernel
theorem dX3_isSector_13 : decode cX3_isSector 13 = .ok (.goto 4, 3) := by decide +kernel
theorem dX3_isSector_16 : decode cX3_isSector 16 = .ok (.iconst 0, 1) := by decide +kernel
theorem dX3_isSector_17 : decode cX3_isSector 17 = .ok (.ireturn, 1) := by decide +kernel
theorem dX3_sector_0 : decode cX3_sector 0 = .ok (.aload_n 0, 1) := by decide +kernel
theorem dX3_sector_1 : decode cX3_sector 1 = .ok (.iconst 0, 1) := by decide +kernel
theorem dX3_sector_2 : decode cX3_sector 2 = .ok (.putfield 54, 3) := by decide +kernel
theorem dX3_sector_5 : decode cX3_sector 5 = .ok (.iload_n 1, 1) := by decide +kernel
theorem dX3_sector_6 : decode cX3_sector 6 = .ok (.sipush (-1024), 3) := by decide +kernel
theorem dX3_sector_9 : decode cX3_sector 9 = .ok (.if_icmp .lt 62, 3) := by decide +kernel
theorem dX3_sector_12 : decode cX3_sector 12 = .ok (.iload_n 2, 1) := by decide +kernel
theorem dX3_sector_13 : decode cX3_sector 13 = .ok (.sipush 1024, 3) := by decide +kernel
theorem dX3_sector_16 : decode cX3_sector 16 = .ok (.if_icmp .gt 55, 3) := by decide +kernel
theorem dX3_sector_19 : decode cX3_sector 19 = .ok (.iload_n 2, 1) := by decide +kernel
theorem dX3_sector_20 : decode cX3_sector 20 = .ok (.iload_n 1, 1) := by decide +kernel
theorem dX3_sector_21 : decode cX3_sector 21 = .ok (.if_icmp .le 50, 3) := by decide +kernel
theorem dX3_sector_24 : decode cX3_sector 24 = .ok (.iload_n 3, 1) := by decide +kernel
theorem dX3_sector_25 : decode cX3_sector 25 = .ok (.ifCond .lt 46, 3) := by decide +kernel
theorem dX3_sector_28 : decode cX3_sector 28 = .ok (.iload_n 3, 1) := by decide +kernel
theorem dX3_sector_29 : decode cX3_sector 29 = .ok (.bipush 16, 2) := by decide +kernel
theorem dX3_sector_31 : decode cX3_sector 31 = .ok (.if_icmp .ge 40, 3) := by decide +kernel
theorem dX3_sector_34 : decode cX3_sector 34 = .ok (.iload 4, 2) := by decide +kernel
theorem dX3_sector_36 : decode cX3_sector 36 = .ok (.ifCond .lt 35, 3) := by decide +kernel
theorem dX3_sector_39 : decode cX3_sector 39 = .ok (.iload 4, 2) := by decide +kernel
theorem dX3_sector_41 : decode cX3_sector 41 = .ok (.iconst 4, 1) := by decide +kernel
theorem dX3_sector_42 : decode cX3_sector 42 = .ok (.if_icmp .ge 29, 3) := by decide +kernel
theorem dX3_sector_45 : decode cX3_sector 45 = .ok (.iload 5, 2) := by decide +kernel
theorem dX3_sector_47 : decode cX3_sector 47 = .ok (.ifCond .lt 24, 3) := by decide +kernel
theorem dX3_sector_50 : decode cX3_sector 50 = .ok (.iload 5, 2) := by decide +kernel
theorem dX3_sector_52 : decode cX3_sector 52 = .ok (.sipush 256, 3) := by decide +kernel
theorem dX3_sector_55 : decode cX3_sector 55 = .ok (.if_icmp .ge 16, 3) := by decide +kernel
theorem dX3_sector_58 : decode cX3_sector 58 = .ok (.aload_n 0, 1) := by decide +kernel
theorem dX3_sector_59 : decode cX3_sector 59 = .ok (.getfield 57, 3) := by decide +kernel
theorem dX3_sector_62 : decode cX3_sector 62 = .ok (.bipush 32, 2) := by decide +kernel
theorem dX3_sector_64 : decode cX3_sector 64 = .ok (.if_icmp .ge 7, 3) := by decide +kernel
theorem dX3_sector_67 : decode cX3_sector 67 = .ok (.iconst 1, 1) := by decide +kernel
theorem dX3_sector_68 : decode cX3_sector 68 = .ok (.goto 4, 3) := by decide +kernel
theorem dX3_sector_71 : decode cX3_sector 71 = .ok (.iconst 0, 1) := by decide +kernel
theorem dX3_sector_72 : decode cX3_sector 72 = .ok (.istore 6, 2) := by decide +kernel
theorem dX3_sector_74 : decode cX3_sector 74 = .ok (.iload 6, 2) := by decide +kernel
theorem dX3_sector_76 : decode cX3_sector 76 = .ok (.ifCond .ne 5, 3) := by decide +kernel
theorem dX3_sector_79 : decode cX3_sector 79 = .ok (.iconst (-1), 1) := by decide +kernel
theorem dX3_sector_80 : decode cX3_sector 80 = .ok (.ireturn, 1) := by decide +kernel
theorem dX3_sector_81 : decode cX3_sector 81 = .ok (.aload_n 0, 1) := by decide +kernel
theorem dX3_sector_82 : decode cX3_sector 82 = .ok (.getfield 7, 3) := by decide +kernel
theorem dX3_sector_85 : decode cX3_sector 85 = .ok (.aload_n 0, 1) := by decide +kernel
theorem dX3_sector_86 : decode cX3_sector 86 = .ok (.getfield 57, 3) := by decide +kernel
theorem dX3_sector_89 : decode cX3_sector 89 = .ok (.iload_n 1, 1) := by decide +kernel
theorem dX3_sector_90 : decode cX3_sector 90 = .ok (.iastore, 1) := by decide +kernel
theorem dX3_sector_91 : decode cX3_sector 91 = .ok (.aload_n 0, 1) := by decide +kernel
theorem dX3_sector_92 : decode cX3_sector 92 = .ok (.getfield 13, 3) := by decide +kernel
theorem dX3_sector_95 : decode cX3_sector 95 = .ok (.aload_n 0, 1) := by decide +kernel
theorem dX3_sector_96 : decode cX3_sector 96 = .ok (.getfield 57, 3) := by decide +kernel
theorem dX3_sector_99 : decode cX3_sector 99 = .ok (.iload_n 2, 1) := by decide +kernel
theorem dX3_sector_100 : decode cX3_sector 100 = .ok (.iastore, 1) := by decide +kernel
theorem dX3_sector_101 : decode cX3_sector 101 = .ok (.aload_n 0, 1) := by decide +kernel
theorem dX3_sector_102 : decode cX3_sector 102 = .ok (.getfield 16, 3) := by decide +kernel
theorem dX3_sector_105 : decode cX3_sector 105 = .ok (.aload_n 0, 1) := by decide +kernel
theorem dX3_sector_106 : decode cX3_sector 106 = .ok (.getfield 57, 3) := by decide +kernel
theorem dX3_sector_109 : decode cX3_sector 109 = .ok (.iload_n 3, 1) := by decide +kernel
theorem dX3_sector_110 : decode cX3_sector 110 = .ok (.iastore, 1) := by decide +kernel
theorem dX3_sector_111 : decode cX3_sector 111 = .ok (.aload_n 0, 1) := by decide +kernel
theorem dX3_sector_112 : decode cX3_sector 112 = .ok (.getfield 19, 3) := by decide +kernel
theorem dX3_sector_115 : decode cX3_sector 115 = .ok (.aload_n 0, 1) := by decide +kernel
theorem dX3_sector_116 : decode cX3_sector 116 = .ok (.getfield 57, 3) := by decide +kernel
theorem dX3_sector_119 : decode cX3_sector 119 = .ok (.iload 4, 2) := by decide +kernel
theorem dX3_sector_121 : decode cX3_sector 121 = .ok (.iastore, 1) := by decide +kernel
theorem dX3_sector_122 : decode cX3_sector 122 = .ok (.aload_n 0, 1) := by decide +kernel
theorem dX3_sector_123 : decode cX3_sector 123 = .ok (.getfield 22, 3) := by decide +kernel
theorem dX3_sector_126 : decode cX3_sector 126 = .ok (.aload_n 0, 1) := by decide +kernel
theorem dX3_sector_127 : decode cX3_sector 127 = .ok (.getfield 57, 3) := by decide +kernel
theorem dX3_sector_130 : decode cX3_sector 130 = .ok (.iload 5, 2) := by decide +kernel
theorem dX3_sector_132 : decode cX3_sector 132 = .ok (.iastore, 1) := by decide +kernel
theorem dX3_sector_133 : decode cX3_sector 133 = .ok (.aload_n 0, 1) := by decide +kernel
theorem dX3_sector_134 : decode cX3_sector 134 = .ok (.dup, 1) := by decide +kernel
theorem dX3_sector_135 : decode cX3_sector 135 = .ok (.getfield 57, 3) := by decide +kernel
theorem dX3_sector_138 : decode cX3_sector 138 = .ok (.iconst 1, 1) := by decide +kernel
theorem dX3_sector_139 : decode cX3_sector 139 = .ok (.iadd, 1) := by decide +kernel
theorem dX3_sector_140 : decode cX3_sector 140 = .ok (.putfield 57, 3) := by decide +kernel
theorem dX3_sector_143 : decode cX3_sector 143 = .ok (.aload_n 0, 1) := by decide +kernel
theorem dX3_sector_144 : decode cX3_sector 144 = .ok (.invokevirtual 60, 3) := by decide +kernel
theorem dX3_sector_147 : decode cX3_sector 147 = .ok (.aload_n 0, 1) := by decide +kernel
theorem dX3_sector_148 : decode cX3_sector 148 = .ok (.getfield 57, 3) := by decide +kernel
theorem dX3_sector_151 : decode cX3_sector 151 = .ok (.iconst 1, 1) := by decide +kernel
theorem dX3_sector_152 : decode cX3_sector 152 = .ok (.isub, 1) := by decide +kernel
theorem dX3_sector_153 : decode cX3_sector 153 = .ok (.ireturn, 1) := by decide +kernel
theorem dX3_join_0 : decode cX3_join 0 = .ok (.aload_n 0, 1) := by decide +kernel
theorem dX3_join_1 : decode cX3_join 1 = .ok (.iconst 0, 1) := by decide +kernel
theorem dX3_join_2 : decode cX3_join 2 = .ok (.putfield 54, 3) := by decide +kernel
theorem dX3_join_5 : decode cX3_join 5 = .ok (.aload_n 0, 1) := by decide +kernel
theorem dX3_join_6 : decode cX3_join 6 = .ok (.iload_n 1, 1) := by decide +kernel
theorem dX3_join_7 : decode cX3_join 7 = .ok (.invokevirtual 63, 3) := by decide +kernel
theorem dX3_join_10 : decode cX3_join 10 = .ok (.ifCond .eq 30, 3) := by decide +kernel
theorem dX3_join_13 : decode cX3_join 13 = .ok (.aload_n 0, 1) := by decide +kernel
theorem dX3_join_14 : decode cX3_join 14 = .ok (.iload_n 2, 1) := by decide +kernel
theorem dX3_join_15 : decode cX3_join 15 = .ok (.invokevirtual 63, 3) := by decide +kernel
theorem dX3_join_18 : decode cX3_join 18 = .ok (.ifCond .eq 22, 3) := by decide +kernel
theorem dX3_join_21 : decode cX3_join 21 = .ok (.iload_n 1, 1) := by decide +kernel
theorem dX3_join_22 : decode cX3_join 22 = .ok (.iload_n 2, 1) := by decide +kernel
theorem dX3_join_23 : decode cX3_join 23 = .ok (.if_icmp .eq 17, 3) := by decide +kernel
theorem dX3_join_26 : decode cX3_join 26 = .ok (.aload_n 0, 1) := by decide +kernel
theorem dX3_join_27 : decode cX3_join 27 = .ok (.getfield 25, 3) := by decide +kernel
theorem dX3_join_30 : decode cX3_join 30 = .ok (.bipush 32, 2) := by decide +kernel
theorem dX3_join_32 : decode cX3_join 32 = .ok (.iload_n 1, 1) := by decide +kernel
theorem dX3_join_33 : decode cX3_join 33 = .ok (.imul, 1) := by decide +kernel
theorem dX3_join_34 : decode cX3_join 34 = .ok (.iload_n 2, 1) := by decide +kernel
theorem dX3_join_35 : decode cX3_join 35 = .ok (.iadd, 1) := by decide +kernel
theorem dX3_join_36 : decode cX3_join 36 = .ok (.baload, 1) := by decide +kernel
theorem dX3_join_37 : decode cX3_join 37 = .ok (.ifCond .eq 5, 3) := by decide +kernel
theorem dX3_join_40 : decode cX3_join 40 = .ok (.iconst 0, 1) := by decide +kernel
theorem dX3_join_41 : decode cX3_join 41 = .ok (.ireturn, 1) := by decide +kernel
theorem dX3_join_42 : decode cX3_join 42 = .ok (.aload_n 0, 1) := by decide +kernel
theorem dX3_join_43 : decode cX3_join 43 = .ok (.getfield 25, 3) := by decide +kernel
theorem dX3_join_46 : decode cX3_join 46 = .ok (.bipush 32, 2) := by decide +kernel
theorem dX3_join_48 : decode cX3_join 48 = .ok (.iload_n 1, 1) := by decide +kernel
theorem dX3_join_49 : decode cX3_join 49 = .ok (.imul, 1) := by decide +kernel
theorem dX3_join_50 : decode cX3_join 50 = .ok (.iload_n 2, 1) := by decide +kernel
theorem dX3_join_51 : decode cX3_join 51 = .ok (.iadd, 1) := by decide +kernel
theorem dX3_join_52 : decode cX3_join 52 = .ok (.iconst 1, 1) := by decide +kernel
theorem dX3_join_53 : decode cX3_join 53 = .ok (.bastore, 1) := by decide +kernel
theorem dX3_join_54 : decode cX3_join 54 = .ok (.aload_n 0, 1) := by decide +kernel
theorem dX3_join_55 : decode cX3_join 55 = .ok (.getfield 25, 3) := by decide +kernel
theorem dX3_join_58 : decode cX3_join 58 = .ok (.bipush 32, 2) := by decide +kernel
theorem dX3_join_60 : decode cX3_join 60 = .ok (.iload_n 2, 1) := by decide +kernel
theorem dX3_join_61 : decode cX3_join 61 = .ok (.imul, 1) := by decide +kernel
theorem dX3_join_62 : decode cX3_join 62 = .ok (.iload_n 1, 1) := by decide +kernel
theorem dX3_join_63 : decode cX3_join 63 = .ok (.iadd, 1) := by decide +kernel
theorem dX3_join_64 : decode cX3_join 64 = .ok (.iconst 1, 1) := by decide +kernel
theorem dX3_join_65 : decode cX3_join 65 = .ok (.bastore, 1) := by decide +kernel
theorem dX3_join_66 : decode cX3_join 66 = .ok (.aload_n 0, 1) := by decide +kernel
theorem dX3_join_67 : decode cX3_join 67 = .ok (.dup, 1) := by decide +kernel
theorem dX3_join_68 : decode cX3_join 68 = .ok (.getfield 67, 3) := by decide +kernel
theorem dX3_join_71 : decode cX3_join 71 = .ok (.iconst 1, 1) := by decide +kernel
theorem dX3_join_72 : decode cX3_join 72 = .ok (.iadd, 1) := by decide +kernel
theorem dX3_join_73 : decode cX3_join 73 = .ok (.putfield 67, 3) := by decide +kernel
theorem dX3_join_76 : decode cX3_join 76 = .ok (.iconst 1, 1) := by decide +kernel
theorem dX3_join_77 : decode cX3_join 77 = .ok (.ireturn, 1) := by decide +kernel
theorem dX3_reset_0 : decode cX3_reset 0 = .ok (.aload_n 0, 1) := by decide +kernel
theorem dX3_reset_1 : decode cX3_reset 1 = .ok (.iconst 0, 1) := by decide +kernel
theorem dX3_reset_2 : decode cX3_reset 2 = .ok (.putfield 54, 3) := by decide +kernel
theorem dX3_reset_5 : decode cX3_reset 5 = .ok (.iconst 0, 1) := by decide +kernel
theorem dX3_reset_6 : decode cX3_reset 6 = .ok (.istore_n 1, 1) := by decide +kernel
theorem dX3_reset_7 : decode cX3_reset 7 = .ok (.iload_n 1, 1) := by decide +kernel
theorem dX3_reset_8 : decode cX3_reset 8 = .ok (.aload_n 0, 1) := by decide +kernel
theorem dX3_reset_9 : decode cX3_reset 9 = .ok (.getfield 57, 3) := by decide +kernel
theorem dX3_reset_12 : decode cX3_reset 12 = .ok (.if_icmp .ge 61, 3) := by decide +kernel
theorem dX3_reset_15 : decode cX3_reset 15 = .ok (.aload_n 0, 1) := by decide +kernel
theorem dX3_reset_16 : decode cX3_reset 16 = .ok (.getfield 29, 3) := by decide +kernel
theorem dX3_reset_19 : decode cX3_reset 19 = .ok (.iload_n 1, 1) := by decide +kernel
theorem dX3_reset_20 : decode cX3_reset 20 = .ok (.aload_n 0, 1) := by decide +kernel
theorem dX3_reset_21 : decode cX3_reset 21 = .ok (.getfield 7, 3) := by decide +kernel
theorem dX3_reset_24 : decode cX3_reset 24 = .ok (.iload_n 1, 1) := by decide +kernel
theorem dX3_reset_25 : decode cX3_reset 25 = .ok (.iaload, 1) := by decide +kernel
theorem dX3_reset_26 : decode cX3_reset 26 = .ok (.iastore, 1) := by decide +kernel
theorem dX3_reset_27 : decode cX3_reset 27 = .ok (.aload_n 0, 1) := by decide +kernel
theorem dX3_reset_28 : decode cX3_reset 28 = .ok (.getfield 32, 3) := by decide +kernel
theorem dX3_reset_31 : decode cX3_reset 31 = .ok (.iload_n 1, 1) := by decide +kernel
theorem dX3_reset_32 : decode cX3_reset 32 = .ok (.aload_n 0, 1) := by decide +kernel
theorem dX3_reset_33 : decode cX3_reset 33 = .ok (.getfield 13, 3) := by decide +kernel
theorem dX3_reset_36 : decode cX3_reset 36 = .ok (.iload_n 1, 1) := by decide +kernel
theorem dX3_reset_37 : decode cX3_reset 37 = .ok (.iaload, 1) := by decide +kernel
theorem dX3_reset_38 : decode cX3_reset 38 = .ok (.iastore, 1) := by decide +kernel
theorem dX3_reset_39 : decode cX3_reset 39 = .ok (.aload_n 0, 1) := by decide +kernel
theorem dX3_reset_40 : decode cX3_reset 40 = .ok (.getfield 35, 3) := by decide +kernel
theorem dX3_reset_43 : decode cX3_reset 43 = .ok (.iload_n 1, 1) := by decide +kernel
theorem dX3_reset_44 : decode cX3_reset 44 = .ok (.iconst (-1), 1) := by decide +kernel
theorem dX3_reset_45 : decode cX3_reset 45 = .ok (.iastore, 1) := by decide +kernel
theorem dX3_reset_46 : decode cX3_reset 46 = .ok (.aload_n 0, 1) := by decide +kernel
theorem dX3_reset_47 : decode cX3_reset 47 = .ok (.getfield 38, 3) := by decide +kernel
theorem dX3_reset_50 : decode cX3_reset 50 = .ok (.iload_n 1, 1) := by decide +kernel
theorem dX3_reset_51 : decode cX3_reset 51 = .ok (.iconst 0, 1) := by decide +kernel
theorem dX3_reset_52 : decode cX3_reset 52 = .ok (.iastore, 1) := by decide +kernel
theorem dX3_reset_53 : decode cX3_reset 53 = .ok (.aload_n 0, 1) := by decide +kernel
theorem dX3_reset_54 : decode cX3_reset 54 = .ok (.getfield 41, 3) := by decide +kernel
theorem dX3_reset_57 : decode cX3_reset 57 = .ok (.iload_n 1, 1) := by decide +kernel
theorem dX3_reset_58 : decode cX3_reset 58 = .ok (.iconst 0, 1) := by decide +kernel
theorem dX3_reset_59 : decode cX3_reset 59 = .ok (.iastore, 1) := by decide +kernel
theorem dX3_reset_60 : decode cX3_reset 60 = .ok (.aload_n 0, 1) := by decide +kernel
theorem dX3_reset_61 : decode cX3_reset 61 = .ok (.getfield 44, 3) := by decide +kernel
theorem dX3_reset_64 : decode cX3_reset 64 = .ok (.iload_n 1, 1) := by decide +kernel
theorem dX3_reset_65 : decode cX3_reset 65 = .ok (.iconst (-1), 1) := by decide +kernel
theorem dX3_reset_66 : decode cX3_reset 66 = .ok (.iastore, 1) := by decide +kernel
theorem dX3_reset_67 : decode cX3_reset 67 = .ok (.iinc 1 1, 3) := by decide +kernel
theorem dX3_reset_70 : decode cX3_reset 70 = .ok (.goto (-63), 3) := by decide +kernel
theorem dX3_reset_73 : decode cX3_reset 73 = .ok (.aload_n 0, 1) := by decide +kernel
theorem dX3_reset_74 : decode cX3_reset 74 = .ok (.iconst 0, 1) := by decide +kernel
theorem dX3_reset_75 : decode cX3_reset 75 = .ok (.putfield 70, 3) := by decide +kernel
theorem dX3_reset_78 : decode cX3_reset 78 = .ok (.aload_n 0, 1) := by decide +kernel
theorem dX3_reset_79 : decode cX3_reset 79 = .ok (.iconst (-1), 1) := by decide +kernel
theorem dX3_reset_80 : decode cX3_reset 80 = .ok (.putfield 50, 3) := by decide +kernel
theorem dX3_reset_83 : decode cX3_reset 83 = .ok (.aload_n 0, 1) := by decide +kernel
theorem dX3_reset_84 : decode cX3_reset 84 = .ok (.iconst 0, 1) := by decide +kernel
theorem dX3_reset_85 : decode cX3_reset 85 = .ok (.putfield 73, 3) := by decide +kernel
theorem dX3_reset_88 : decode cX3_reset 88 = .ok (.return_, 1) := by decide +kernel
theorem dX3_clear_0 : decode cX3_clear 0 = .ok (.aload_n 0, 1) := by decide +kernel
theorem dX3_clear_1 : decode cX3_clear 1 = .ok (.iconst 0, 1) := by decide +kernel
theorem dX3_clear_2 : decode cX3_clear 2 = .ok (.putfield 54, 3) := by decide +kernel
theorem dX3_clear_5 : decode cX3_clear 5 = .ok (.aload_n 0, 1) := by decide +kernel
theorem dX3_clear_6 : decode cX3_clear 6 = .ok (.iconst 0, 1) := by decide +kernel
theorem dX3_clear_7 : decode cX3_clear 7 = .ok (.putfield 57, 3) := by decide +kernel
theorem dX3_clear_10 : decode cX3_clear 10 = .ok (.aload_n 0, 1) := by decide +kernel
theorem dX3_clear_11 : decode cX3_clear 11 = .ok (.iconst 0, 1) := by decide +kernel
theorem dX3_clear_12 : decode cX3_clear 12 = .ok (.putfield 67, 3) := by decide +kernel
theorem dX3_clear_15 : decode cX3_clear 15 = .ok (.iconst 0, 1) := by decide +kernel
theorem dX3_clear_16 : decode cX3_clear 16 = .ok (.istore_n 1, 1) := by decide +kernel
theorem dX3_clear_17 : decode cX3_clear 17 = .ok (.iload_n 1, 1) := by decide +kernel
theorem dX3_clear_18 : decode cX3_clear 18 = .ok (.sipush 1024, 3) := by decide +kernel
theorem dX3_clear_21 : decode cX3_clear 21 = .ok (.if_icmp .ge 16, 3) := by decide +kernel
theorem dX3_clear_24 : decode cX3_clear 24 = .ok (.aload_n 0, 1) := by decide +kernel
theorem dX3_clear_25 : decode cX3_clear 25 = .ok (.getfield 25, 3) := by decide +kernel
theorem dX3_clear_28 : decode cX3_clear 28 = .ok (.iload_n 1, 1) := by decide +kernel
theorem dX3_clear_29 : decode cX3_clear 29 = .ok (.iconst 0, 1) := by decide +kernel
theorem dX3_clear_30 : decode cX3_clear 30 = .ok (.bastore, 1) := by decide +kernel
theorem dX3_clear_31 : decode cX3_clear 31 = .ok (.iinc 1 1, 3) := by decide +kernel
theorem dX3_clear_34 : decode cX3_clear 34 = .ok (.goto (-17), 3) := by decide +kernel
theorem dX3_clear_37 : decode cX3_clear 37 = .ok (.aload_n 0, 1) := by decide +kernel
theorem dX3_clear_38 : decode cX3_clear 38 = .ok (.invokevirtual 60, 3) := by decide +kernel
theorem dX3_clear_41 : decode cX3_clear 41 = .ok (.return_, 1) := by decide +kernel
theorem dX3_lowFloor_0 : decode cX3_lowFloor 0 = .ok (.aload_n 0, 1) := by decide +kernel
theorem dX3_lowFloor_1 : decode cX3_lowFloor 1 = .ok (.getfield 29, 3) := by decide +kernel
theorem dX3_lowFloor_4 : decode cX3_lowFloor 4 = .ok (.iload_n 1, 1) := by decide +kernel
theorem dX3_lowFloor_5 : decode cX3_lowFloor 5 = .ok (.iaload, 1) := by decide +kernel
theorem dX3_lowFloor_6 : decode cX3_lowFloor 6 = .ok (.istore_n 2, 1) := by decide +kernel
theorem dX3_lowFloor_7 : decode cX3_lowFloor 7 = .ok (.iconst 0, 1) := by decide +kernel
theorem dX3_lowFloor_8 : decode cX3_lowFloor 8 = .ok (.istore_n 3, 1) := by decide +kernel
theorem dX3_lowFloor_9 : decode cX3_lowFloor 9 = .ok (.iload_n 3, 1) := by decide +kernel
theorem dX3_lowFloor_10 : decode cX3_lowFloor 10 = .ok (.aload_n 0, 1) := by decide +kernel
theorem dX3_lowFloor_11 : decode cX3_lowFloor 11 = .ok (.getfield 57, 3) := by decide +kernel
theorem dX3_lowFloor_14 : decode cX3_lowFloor 14 = .ok (.if_icmp .ge 44, 3) := by decide +kernel
theorem dX3_lowFloor_17 : decode cX3_lowFloor 17 = .ok (.aload_n 0, 1) := by decide +kernel
theorem dX3_lowFloor_18 : decode cX3_lowFloor 18 = .ok (.getfield 25, 3) := by decide +kernel
theorem dX3_lowFloor_21 : decode cX3_lowFloor 21 = .ok (.bipush 32, 2) := by decide +kernel
theorem dX3_lowFloor_23 : decode cX3_lowFloor 23 = .ok (.iload_n 1, 1) := by decide +kernel
theorem dX3_lowFloor_24 : decode cX3_lowFloor 24 = .ok (.imul, 1) := by decide +kernel
theorem dX3_lowFloor_25 : decode cX3_lowFloor 25 = .ok (.iload_n 3, 1) := by decide +kernel
theorem dX3_lowFloor_26 : decode cX3_lowFloor 26 = .ok (.iadd, 1) := by decide +kernel
theorem dX3_lowFloor_27 : decode cX3_lowFloor 27 = .ok (.baload, 1) := by decide +kernel
theorem dX3_lowFloor_28 : decode cX3_lowFloor 28 = .ok (.ifCond .eq 22, 3) := by decide +kernel
theorem dX3_lowFloor_31 : decode cX3_lowFloor 31 = .ok (.aload_n 0, 1) := by decide +kernel
theorem dX3_lowFloor_32 : decode cX3_lowFloor 32 = .ok (.getfield 29, 3) := by decide +kernel
theorem dX3_lowFloor_35 : decode cX3_lowFloor 35 = .ok (.iload_n 3, 1) := by decide +kernel
theorem dX3_lowFloor_36 : decode cX3_lowFloor 36 = .ok (.iaload, 1) := by decide +kernel
theorem dX3_lowFloor_37 : decode cX3_lowFloor 37 = .ok (.iload_n 2, 1) := by decide +kernel
theorem dX3_lowFloor_38 : decode cX3_lowFloor 38 = .ok (.if_icmp .ge 12, 3) := by decide +kernel
theorem dX3_lowFloor_41 : decode cX3_lowFloor 41 = .ok (.aload_n 0, 1) := by decide +kernel
theorem dX3_lowFloor_42 : decode cX3_lowFloor 42 = .ok (.getfield 29, 3) := by decide +kernel
theorem dX3_lowFloor_45 : decode cX3_lowFloor 45 = .ok (.iload_n 3, 1) := by decide +kernel
theorem dX3_lowFloor_46 : decode cX3_lowFloor 46 = .ok (.iaload, 1) := by decide +kernel
theorem dX3_lowFloor_47 : decode cX3_lowFloor 47 = .ok (.goto 4, 3) := by decide +kernel
theorem dX3_lowFloor_50 : decode cX3_lowFloor 50 = .ok (.iload_n 2, 1) := by decide +kernel
theorem dX3_lowFloor_51 : decode cX3_lowFloor 51 = .ok (.istore_n 2, 1) := by decide +kernel
theorem dX3_lowFloor_52 : decode cX3_lowFloor 52 = .ok (.iinc 3 1, 3) := by decide +kernel
theorem dX3_lowFloor_55 : decode cX3_lowFloor 55 = .ok (.goto (-46), 3) := by decide +kernel
theorem dX3_lowFloor_58 : decode cX3_lowFloor 58 = .ok (.iload_n 2, 1) := by decide +kernel
theorem dX3_lowFloor_59 : decode cX3_lowFloor 59 = .ok (.ireturn, 1) := by decide +kernel
theorem dX3_highFloor_0 : decode cX3_highFloor 0 = .ok (.aload_n 0, 1) := by decide +kernel
theorem dX3_highFloor_1 : decode cX3_highFloor 1 = .ok (.getfield 29, 3) := by decide +kernel
theorem dX3_highFloor_4 : decode cX3_highFloor 4 = .ok (.iload_n 1, 1) := by decide +kernel
theorem dX3_highFloor_5 : decode cX3_highFloor 5 = .ok (.iaload, 1) := by decide +kernel
theorem dX3_highFloor_6 : decode cX3_highFloor 6 = .ok (.istore_n 2, 1) := by decide +kernel
theorem dX3_highFloor_7 : decode cX3_highFloor 7 = .ok (.iconst 0, 1) := by decide +kernel
theorem dX3_highFloor_8 : decode cX3_highFloor 8 = .ok (.istore_n 3, 1) := by decide +kernel
theorem dX3_highFloor_9 : decode cX3_highFloor 9 = .ok (.iload_n 3, 1) := by decide +kernel
theorem dX3_highFloor_10 : decode cX3_highFloor 10 = .ok (.aload_n 0, 1) := by decide +kernel
theorem dX3_highFloor_11 : decode cX3_highFloor 11 = .ok (.getfield 57, 3) := by decide +kernel
theorem dX3_highFloor_14 : decode cX3_highFloor 14 = .ok (.if_icmp .ge 44, 3) := by decide +kernel
theorem dX3_highFloor_17 : decode cX3_highFloor 17 = .ok (.aload_n 0, 1) := by decide +kernel
theorem dX3_highFloor_18 : decode cX3_highFloor 18 = .ok (.getfield 25, 3) := by decide +kernel
theorem dX3_highFloor_21 : decode cX3_highFloor 21 = .ok (.bipush 32, 2) := by decide +kernel
theorem dX3_highFloor_23 : decode cX3_highFloor 23 = .ok (.iload_n 1, 1) := by decide +kernel
theorem dX3_highFloor_24 : decode cX3_highFloor 24 = .ok (.imul, 1) := by decide +kernel
theorem dX3_highFloor_25 : decode cX3_highFloor 25 = .ok (.iload_n 3, 1) := by decide +kernel
theorem dX3_highFloor_26 : decode cX3_highFloor 26 = .ok (.iadd, 1) := by decide +kernel
theorem dX3_highFloor_27 : decode cX3_highFloor 27 = .ok (.baload, 1) := by decide +kernel
theorem dX3_highFloor_28 : decode cX3_highFloor 28 = .ok (.ifCond .eq 22, 3) := by decide +kernel
theorem dX3_highFloor_31 : decode cX3_highFloor 31 = .ok (.aload_n 0, 1) := by decide +kernel
theorem dX3_highFloor_32 : decode cX3_highFloor 32 = .ok (.getfield 29, 3) := by decide +kernel
theorem dX3_highFloor_35 : decode cX3_highFloor 35 = .ok (.iload_n 3, 1) := by decide +kernel
theorem dX3_highFloor_36 : decode cX3_highFloor 36 = .ok (.iaload, 1) := by decide +kernel
theorem dX3_highFloor_37 : decode cX3_highFloor 37 = .ok (.iload_n 2, 1) := by decide +kernel
theorem dX3_highFloor_38 : decode cX3_highFloor 38 = .ok (.if_icmp .le 12, 3) := by decide +kernel
theorem dX3_highFloor_41 : decode cX3_highFloor 41 = .ok (.aload_n 0, 1) := by decide +kernel
theorem dX3_highFloor_42 : decode cX3_highFloor 42 = .ok (.getfield 29, 3) := by decide +kernel
theorem dX3_highFloor_45 : decode cX3_highFloor 45 = .ok (.iload_n 3, 1) := by decide +kernel
theorem dX3_highFloor_46 : decode cX3_highFloor 46 = .ok (.iaload, 1) := by decide +kernel
theorem dX3_highFloor_47 : decode cX3_highFloor 47 = .ok (.goto 4, 3) := by decide +kernel
theorem dX3_highFloor_50 : decode cX3_highFloor 50 = .ok (.iload_n 2, 1) := by decide +kernel
theorem dX3_highFloor_51 : decode cX3_highFloor 51 = .ok (.istore_n 2, 1) := by decide +kernel
theorem dX3_highFloor_52 : decode cX3_highFloor 52 = .ok (.iinc 3 1, 3) := by decide +kernel
theorem dX3_highFloor_55 : decode cX3_highFloor 55 = .ok (.goto (-46), 3) := by decide +kernel
theorem dX3_highFloor_58 : decode cX3_highFloor 58 = .ok (.iload_n 2, 1) := by decide +kernel
theorem dX3_highFloor_59 : decode cX3_highFloor 59 = .ok (.ireturn, 1) := by decide +kernel
theorem dX3_lowCeiling_0 : decode cX3_lowCeiling 0 = .ok (.ldc 76, 2) := by decide +kernel
theorem dX3_lowCeiling_2 : decode cX3_lowCeiling 2 = .ok (.istore_n 2, 1) := by decide +kernel
theorem dX3_lowCeiling_3 : decode cX3_lowCeiling 3 = .ok (.iconst 0, 1) := by decide +kernel
theorem dX3_lowCeiling_4 : decode cX3_lowCeiling 4 = .ok (.istore_n 3, 1) := by decide +kernel
theorem dX3_lowCeiling_5 : decode cX3_lowCeiling 5 = .ok (.iload_n 3, 1) := by decide +kernel
theorem dX3_lowCeiling_6 : decode cX3_lowCeiling 6 = .ok (.aload_n 0, 1) := by decide +kernel
theorem dX3_lowCeiling_7 : decode cX3_lowCeiling 7 = .ok (.getfield 57, 3) := by decide +kernel
theorem dX3_lowCeiling_10 : decode cX3_lowCeiling 10 = .ok (.if_icmp .ge 44, 3) := by decide +kernel
theorem dX3_lowCeiling_13 : decode cX3_lowCeiling 13 = .ok (.aload_n 0, 1) := by decide +kernel
theorem dX3_lowCeiling_14 : decode cX3_lowCeiling 14 = .ok (.getfield 25, 3) := by decide +kernel
theorem dX3_lowCeiling_17 : decode cX3_lowCeiling 17 = .ok (.bipush 32, 2) := by decide +kernel
theorem dX3_lowCeiling_19 : decode cX3_lowCeiling 19 = .ok (.iload_n 1, 1) := by decide +kernel
theorem dX3_lowCeiling_20 : decode cX3_lowCeiling 20 = .ok (.imul, 1) := by decide +kernel
theorem dX3_lowCeiling_21 : decode cX3_lowCeiling 21 = .ok (.iload_n 3, 1) := by decide +kernel
theorem dX3_lowCeiling_22 : decode cX3_lowCeiling 22 = .ok (.iadd, 1) := by decide +kernel
theorem dX3_lowCeiling_23 : decode cX3_lowCeiling 23 = .ok (.baload, 1) := by decide +kernel
theorem dX3_lowCeiling_24 : decode cX3_lowCeiling 24 = .ok (.ifCond .eq 22, 3) := by decide +kernel
theorem dX3_lowCeiling_27 : decode cX3_lowCeiling 27 = .ok (.aload_n 0, 1) := by decide +kernel
theorem dX3_lowCeiling_28 : decode cX3_lowCeiling 28 = .ok (.getfield 32, 3) := by decide +kernel
theorem dX3_lowCeiling_31 : decode cX3_lowCeiling 31 = .ok (.iload_n 3, 1) := by decide +kernel
theorem dX3_lowCeiling_32 : decode cX3_lowCeiling 32 = .ok (.iaload, 1) := by decide +kernel
theorem dX3_lowCeiling_33 : decode cX3_lowCeiling 33 = .ok (.iload_n 2, 1) := by decide +kernel
theorem dX3_lowCeiling_34 : decode cX3_lowCeiling 34 = .ok (.if_icmp .ge 12, 3) := by decide +kernel
theorem dX3_lowCeiling_37 : decode cX3_lowCeiling 37 = .ok (.aload_n 0, 1) := by decide +kernel
theorem dX3_lowCeiling_38 : decode cX3_lowCeiling 38 = .ok (.getfield 32, 3) := by decide +kernel
theorem dX3_lowCeiling_41 : decode cX3_lowCeiling 41 = .ok (.iload_n 3, 1) := by decide +kernel
theorem dX3_lowCeiling_42 : decode cX3_lowCeiling 42 = .ok (.iaload, 1) := by decide +kernel
theorem dX3_lowCeiling_43 : decode cX3_lowCeiling 43 = .ok (.goto 4, 3) := by decide +kernel
theorem dX3_lowCeiling_46 : decode cX3_lowCeiling 46 = .ok (.iload_n 2, 1) := by decide +kernel
theorem dX3_lowCeiling_47 : decode cX3_lowCeiling 47 = .ok (.istore_n 2, 1) := by decide +kernel
theorem dX3_lowCeiling_48 : decode cX3_lowCeiling 48 = .ok (.iinc 3 1, 3) := by decide +kernel
theorem dX3_lowCeiling_51 : decode cX3_lowCeiling 51 = .ok (.goto (-46), 3) := by decide +kernel
theorem dX3_lowCeiling_54 : decode cX3_lowCeiling 54 = .ok (.iload_n 2, 1) := by decide +kernel
theorem dX3_lowCeiling_55 : decode cX3_lowCeiling 55 = .ok (.ldc 76, 2) := by decide +kernel
theorem dX3_lowCeiling_57 : decode cX3_lowCeiling 57 = .ok (.if_icmp .ne 12, 3) := by decide +kernel
theorem dX3_lowCeiling_60 : decode cX3_lowCeiling 60 = .ok (.aload_n 0, 1) := by decide +kernel
theorem dX3_lowCeiling_61 : decode cX3_lowCeiling 61 = .ok (.getfield 32, 3) := by decide +kernel
theorem dX3_lowCeiling_64 : decode cX3_lowCeiling 64 = .ok (.iload_n 1, 1) := by decide +kernel
theorem dX3_lowCeiling_65 : decode cX3_lowCeiling 65 = .ok (.iaload, 1) := by decide +kernel
theorem dX3_lowCeiling_66 : decode cX3_lowCeiling 66 = .ok (.goto 4, 3) := by decide +kernel
theorem dX3_lowCeiling_69 : decode cX3_lowCeiling 69 = .ok (.iload_n 2, 1) := by decide +kernel
theorem dX3_lowCeiling_70 : decode cX3_lowCeiling 70 = .ok (.ireturn, 1) := by decide +kernel
theorem dX3_begin_0 : decode cX3_begin 0 = .ok (.aload_n 0, 1) := by decide +kernel
theorem dX3_begin_1 : decode cX3_begin 1 = .ok (.iconst 0, 1) := by decide +kernel
theorem dX3_begin_2 : decode cX3_begin 2 = .ok (.putfield 54, 3) := by decide +kernel
theorem dX3_begin_5 : decode cX3_begin 5 = .ok (.aload_n 0, 1) := by decide +kernel
theorem dX3_begin_6 : decode cX3_begin 6 = .ok (.iload_n 1, 1) := by decide +kernel
theorem dX3_begin_7 : decode cX3_begin 7 = .ok (.invokevirtual 63, 3) := by decide +kernel
theorem dX3_begin_10 : decode cX3_begin 10 = .ok (.ifCond .eq 12, 3) := by decide +kernel
theorem dX3_begin_13 : decode cX3_begin 13 = .ok (.iload_n 2, 1) := by decide +kernel
theorem dX3_begin_14 : decode cX3_begin 14 = .ok (.ifCond .lt 8, 3) := by decide +kernel
theorem dX3_begin_17 : decode cX3_begin 17 = .ok (.iload_n 2, 1) := by decide +kernel
theorem dX3_begin_18 : decode cX3_begin 18 = .ok (.iconst 2, 1) := by decide +kernel
theorem dX3_begin_19 : decode cX3_begin 19 = .ok (.if_icmp .le 5, 3) := by decide +kernel
theorem dX3_begin_22 : decode cX3_begin 22 = .ok (.iconst 0, 1) := by decide +kernel
theorem dX3_begin_23 : decode cX3_begin 23 = .ok (.ireturn, 1) := by decide +kernel
theorem dX3_begin_24 : decode cX3_begin 24 = .ok (.aload_n 0, 1) := by decide +kernel
theorem dX3_begin_25 : decode cX3_begin 25 = .ok (.getfield 35, 3) := by decide +kernel
theorem dX3_begin_28 : decode cX3_begin 28 = .ok (.iload_n 1, 1) := by decide +kernel
theorem dX3_begin_29 : decode cX3_begin 29 = .ok (.iaload, 1) := by decide +kernel
theorem dX3_begin_30 : decode cX3_begin 30 = .ok (.ifCond .lt 74, 3) := by decide +kernel
theorem dX3_begin_33 : decode cX3_begin 33 = .ok (.iload_n 2, 1) := by decide +kernel
theorem dX3_begin_34 : decode cX3_begin 34 = .ok (.ifCond .ne 26, 3) := by decide +kernel
theorem dX3_begin_37 : decode cX3_begin 37 = .ok (.aload_n 0, 1) := by decide +kernel
theorem dX3_begin_38 : decode cX3_begin 38 = .ok (.getfield 35, 3) := by decide +kernel
theorem dX3_begin_41 : decode cX3_begin 41 = .ok (.iload_n 1, 1) := by decide +kernel
theorem dX3_begin_42 : decode cX3_begin 42 = .ok (.iaload, 1) := by decide +kernel
theorem dX3_begin_43 : decode cX3_begin 43 = .ok (.ifCond .ne 17, 3) := by decide +kernel
theorem dX3_begin_46 : decode cX3_begin 46 = .ok (.aload_n 0, 1) := by decide +kernel
theorem dX3_begin_47 : decode cX3_begin 47 = .ok (.getfield 38, 3) := by decide +kernel
theorem dX3_begin_50 : decode cX3_begin 50 = .ok (.iload_n 1, 1) := by decide +kernel
theorem dX3_begin_51 : decode cX3_begin 51 = .ok (.iaload, 1) := by decide +kernel
theorem dX3_begin_52 : decode cX3_begin 52 = .ok (.iconst 1, 1) := by decide +kernel
theorem dX3_begin_53 : decode cX3_begin 53 = .ok (.if_icmp .ge 7, 3) := by decide +kernel
theorem dX3_begin_56 : decode cX3_begin 56 = .ok (.iconst 1, 1) := by decide +kernel
theorem dX3_begin_57 : decode cX3_begin 57 = .ok (.goto 4, 3) := by decide +kernel
theorem dX3_begin_60 : decode cX3_begin 60 = .ok (.iconst 0, 1) := by decide +kernel
theorem dX3_begin_61 : decode cX3_begin 61 = .ok (.istore_n 3, 1) := by decide +kernel
theorem dX3_begin_62 : decode cX3_begin 62 = .ok (.aload_n 0, 1) := by decide +kernel
theorem dX3_begin_63 : decode cX3_begin 63 = .ok (.getfield 38, 3) := by decide +kernel
theorem dX3_begin_66 : decode cX3_begin 66 = .ok (.iload_n 1, 1) := by decide +kernel
theorem dX3_begin_67 : decode cX3_begin 67 = .ok (.iload_n 3, 1) := by decide +kernel
theorem dX3_begin_68 : decode cX3_begin 68 = .ok (.ifCond .eq 7, 3) := by decide +kernel
theorem dX3_begin_71 : decode cX3_begin 71 = .ok (.iconst 1, 1) := by decide +kernel
theorem dX3_begin_72 : decode cX3_begin 72 = .ok (.goto 9, 3) := by decide +kernel
theorem dX3_begin_75 : decode cX3_begin 75 = .ok (.aload_n 0, 1) := by decide +kernel
theorem dX3_begin_76 : decode cX3_begin 76 = .ok (.getfield 38, 3) := by decide +kernel
theorem dX3_begin_79 : decode cX3_begin 79 = .ok (.iload_n 1, 1) := by decide +kernel
theorem dX3_begin_80 : decode cX3_begin 80 = .ok (.iaload, 1) := by decide +kernel
theorem dX3_begin_81 : decode cX3_begin 81 = .ok (.iastore, 1) := by decide +kernel
theorem dX3_begin_82 : decode cX3_begin 82 = .ok (.aload_n 0, 1) := by decide +kernel
theorem dX3_begin_83 : decode cX3_begin 83 = .ok (.getfield 41, 3) := by decide +kernel
theorem dX3_begin_86 : decode cX3_begin 86 = .ok (.iload_n 1, 1) := by decide +kernel
theorem dX3_begin_87 : decode cX3_begin 87 = .ok (.iload_n 3, 1) := by decide +kernel
theorem dX3_begin_88 : decode cX3_begin 88 = .ok (.ifCond .eq 7, 3) := by decide +kernel
theorem dX3_begin_91 : decode cX3_begin 91 = .ok (.iconst 0, 1) := by decide +kernel
theorem dX3_begin_92 : decode cX3_begin 92 = .ok (.goto 9, 3) := by decide +kernel
theorem dX3_begin_95 : decode cX3_begin 95 = .ok (.aload_n 0, 1) := by decide +kernel
theorem dX3_begin_96 : decode cX3_begin 96 = .ok (.getfield 41, 3) := by decide +kernel
theorem dX3_begin_99 : decode cX3_begin 99 = .ok (.iload_n 1, 1) := by decide +kernel
theorem dX3_begin_100 : decode cX3_begin 100 = .ok (.iaload, 1) := by decide +kernel
theorem dX3_begin_101 : decode cX3_begin 101 = .ok (.iastore, 1) := by decide +kernel
theorem dX3_begin_102 : decode cX3_begin 102 = .ok (.iload_n 3, 1) := by decide +kernel
theorem dX3_begin_103 : decode cX3_begin 103 = .ok (.ireturn, 1) := by decide +kernel
theorem dX3_begin_104 : decode cX3_begin 104 = .ok (.aload_n 0, 1) := by decide +kernel
theorem dX3_begin_105 : decode cX3_begin 105 = .ok (.getfield 35, 3) := by decide +kernel
theorem dX3_begin_108 : decode cX3_begin 108 = .ok (.iload_n 1, 1) := by decide +kernel
theorem dX3_begin_109 : decode cX3_begin 109 = .ok (.iload_n 2, 1) := by decide +kernel
theorem dX3_begin_110 : decode cX3_begin 110 = .ok (.iastore, 1) := by decide +kernel
theorem dX3_begin_111 : decode cX3_begin 111 = .ok (.aload_n 0, 1) := by decide +kernel
theorem dX3_begin_112 : decode cX3_begin 112 = .ok (.getfield 41, 3) := by decide +kernel
theorem dX3_begin_115 : decode cX3_begin 115 = .ok (.iload_n 1, 1) := by decide +kernel
theorem dX3_begin_116 : decode cX3_begin 116 = .ok (.iconst 0, 1) := by decide +kernel
theorem dX3_begin_117 : decode cX3_begin 117 = .ok (.iastore, 1) := by decide +kernel
theorem dX3_begin_118 : decode cX3_begin 118 = .ok (.aload_n 0, 1) := by decide +kernel
theorem dX3_begin_119 : decode cX3_begin 119 = .ok (.getfield 38, 3) := by decide +kernel
theorem dX3_begin_122 : decode cX3_begin 122 = .ok (.iload_n 1, 1) := by decide +kernel
theorem dX3_begin_123 : decode cX3_begin 123 = .ok (.iload_n 2, 1) := by decide +kernel
theorem dX3_begin_124 : decode cX3_begin 124 = .ok (.iconst 1, 1) := by decide +kernel
theorem dX3_begin_125 : decode cX3_begin 125 = .ok (.if_icmp .ne 7, 3) := by decide +kernel
theorem dX3_begin_128 : decode cX3_begin 128 = .ok (.iconst (-1), 1) := by decide +kernel
theorem dX3_begin_129 : decode cX3_begin 129 = .ok (.goto 4, 3) := by decide +kernel
theorem dX3_begin_132 : decode cX3_begin 132 = .ok (.iconst 1, 1) := by decide +kernel
theorem dX3_begin_133 : decode cX3_begin 133 = .ok (.iastore, 1) := by decide +kernel
theorem dX3_begin_134 : decode cX3_begin 134 = .ok (.aload_n 0, 1) := by decide +kernel
theorem dX3_begin_135 : decode cX3_begin 135 = .ok (.getfield 47, 3) := by decide +kernel
theorem dX3_begin_138 : decode cX3_begin 138 = .ok (.iload_n 1, 1) := by decide +kernel
theorem dX3_begin_139 : decode cX3_begin 139 = .ok (.aload_n 0, 1) := by decide +kernel
theorem dX3_begin_140 : decode cX3_begin 140 = .ok (.getfield 29, 3) := by decide +kernel
theorem dX3_begin_143 : decode cX3_begin 143 = .ok (.iload_n 1, 1) := by decide +kernel
theorem dX3_begin_144 : decode cX3_begin 144 = .ok (.iaload, 1) := by decide +kernel
theorem dX3_begin_145 : decode cX3_begin 145 = .ok (.iastore, 1) := by decide +kernel
theorem dX3_begin_146 : decode cX3_begin 146 = .ok (.aload_n 0, 1) := by decide +kernel
theorem dX3_begin_147 : decode cX3_begin 147 = .ok (.iload_n 1, 1) := by decide +kernel
theorem dX3_begin_148 : decode cX3_begin 148 = .ok (.invokevirtual 77, 3) := by decide +kernel
theorem dX3_begin_151 : decode cX3_begin 151 = .ok (.iconst 4, 1) := by decide +kernel
theorem dX3_begin_152 : decode cX3_begin 152 = .ok (.isub, 1) := by decide +kernel
theorem dX3_begin_153 : decode cX3_begin 153 = .ok (.istore_n 3, 1) := by decide +kernel
theorem dX3_begin_154 : decode cX3_begin 154 = .ok (.aload_n 0, 1) := by decide +kernel
theorem dX3_begin_155 : decode cX3_begin 155 = .ok (.iload_n 1, 1) := by decide +kernel
theorem dX3_begin_156 : decode cX3_begin 156 = .ok (.invokevirtual 81, 3) := by decide +kernel
theorem dX3_begin_159 : decode cX3_begin 159 = .ok (.istore 4, 2) := by decide +kernel
theorem dX3_begin_161 : decode cX3_begin 161 = .ok (.aload_n 0, 1) := by decide +kernel
theorem dX3_begin_162 : decode cX3_begin 162 = .ok (.getfield 44, 3) := by decide +kernel
theorem dX3_begin_165 : decode cX3_begin 165 = .ok (.iload_n 1, 1) := by decide +kernel
theorem dX3_begin_166 : decode cX3_begin 166 = .ok (.iload_n 2, 1) := by decide +kernel
theorem dX3_begin_167 : decode cX3_begin 167 = .ok (.ifCond .ne 26, 3) := by decide +kernel
theorem dX3_begin_170 : decode cX3_begin 170 = .ok (.iload_n 3, 1) := by decide +kernel
theorem dX3_begin_171 : decode cX3_begin 171 = .ok (.aload_n 0, 1) := by decide +kernel
theorem dX3_begin_172 : decode cX3_begin 172 = .ok (.getfield 32, 3) := by decide +kernel
theorem dX3_begin_175 : decode cX3_begin 175 = .ok (.iload_n 1, 1) := by decide +kernel
theorem dX3_begin_176 : decode cX3_begin 176 = .ok (.iaload, 1) := by decide +kernel
theorem dX3_begin_177 : decode cX3_begin 177 = .ok (.if_icmp .le 7, 3) := by decide +kernel
theorem dX3_begin_180 : decode cX3_begin 180 = .ok (.iload_n 3, 1) := by decide +kernel
theorem dX3_begin_181 : decode cX3_begin 181 = .ok (.goto 47, 3) := by decide +kernel
theorem dX3_begin_184 : decode cX3_begin 184 = .ok (.aload_n 0, 1) := by decide +kernel
theorem dX3_begin_185 : decode cX3_begin 185 = .ok (.getfield 32, 3) := by decide +kernel
theorem dX3_begin_188 : decode cX3_begin 188 = .ok (.iload_n 1, 1) := by decide +kernel
theorem dX3_begin_189 : decode cX3_begin 189 = .ok (.iaload, 1) := by decide +kernel
theorem dX3_begin_190 : decode cX3_begin 190 = .ok (.goto 38, 3) := by decide +kernel
theorem dX3_begin_193 : decode cX3_begin 193 = .ok (.iload_n 2, 1) := by decide +kernel
theorem dX3_begin_194 : decode cX3_begin 194 = .ok (.iconst 1, 1) := by decide +kernel
theorem dX3_begin_195 : decode cX3_begin 195 = .ok (.if_icmp .ne 11, 3) := by decide +kernel
theorem dX3_begin_198 : decode cX3_begin 198 = .ok (.aload_n 0, 1) := by decide +kernel
theorem dX3_begin_199 : decode cX3_begin 199 = .ok (.iload_n 1, 1) := by decide +kernel
theorem dX3_begin_200 : decode cX3_begin 200 = .ok (.invokevirtual 84, 3) := by decide +kernel
theorem dX3_begin_203 : decode cX3_begin 203 = .ok (.goto 25, 3) := by decide +kernel
theorem dX3_begin_206 : decode cX3_begin 206 = .ok (.iload 4, 2) := by decide +kernel
theorem dX3_begin_208 : decode cX3_begin 208 = .ok (.aload_n 0, 1) := by decide +kernel
theorem dX3_begin_209 : decode cX3_begin 209 = .ok (.getfield 32, 3) := by decide +kernel
theorem dX3_begin_212 : decode cX3_begin 212 = .ok (.iload_n 1, 1) := by decide +kernel
theorem dX3_begin_213 : decode cX3_begin 213 = .ok (.iaload, 1) := by decide +kernel
theorem dX3_begin_214 : decode cX3_begin 214 = .ok (.if_icmp .ge 8, 3) := by decide +kernel
theorem dX3_begin_217 : decode cX3_begin 217 = .ok (.iload 4, 2) := by decide +kernel
theorem dX3_begin_219 : decode cX3_begin 219 = .ok (.goto 9, 3) := by decide +kernel
theorem dX3_begin_222 : decode cX3_begin 222 = .ok (.aload_n 0, 1) := by decide +kernel
theorem dX3_begin_223 : decode cX3_begin 223 = .ok (.getfield 32, 3) := by decide +kernel
theorem dX3_begin_226 : decode cX3_begin 226 = .ok (.iload_n 1, 1) := by decide +kernel
theorem dX3_begin_227 : decode cX3_begin 227 = .ok (.iaload, 1) := by decide +kernel
theorem dX3_begin_228 : decode cX3_begin 228 = .ok (.iastore, 1) := by decide +kernel
theorem dX3_begin_229 : decode cX3_begin 229 = .ok (.iconst 1, 1) := by decide +kernel
theorem dX3_begin_230 : decode cX3_begin 230 = .ok (.ireturn, 1) := by decide +kernel
theorem dX3_tag_0 : decode cX3_tag 0 = .ok (.aload_n 0, 1) := by decide +kernel
theorem dX3_tag_1 : decode cX3_tag 1 = .ok (.iconst 0, 1) := by decide +kernel
theorem dX3_tag_2 : decode cX3_tag 2 = .ok (.putfield 54, 3) := by decide +kernel
theorem dX3_tag_5 : decode cX3_tag 5 = .ok (.iload_n 1, 1) := by decide +kernel
theorem dX3_tag_6 : decode cX3_tag 6 = .ok (.ifCond .lt 19, 3) := by decide +kernel
theorem dX3_tag_9 : decode cX3_tag 9 = .ok (.iload_n 1, 1) := by decide +kernel
theorem dX3_tag_10 : decode cX3_tag 10 = .ok (.sipush 255, 3) := by decide +kernel
theorem dX3_tag_13 : decode cX3_tag 13 = .ok (.if_icmp .gt 12, 3) := by decide +kernel
theorem dX3_tag_16 : decode cX3_tag 16 = .ok (.iload_n 2, 1) := by decide +kernel
theorem dX3_tag_17 : decode cX3_tag 17 = .ok (.ifCond .lt 8, 3) := by decide +kernel
theorem dX3_tag_20 : decode cX3_tag 20 = .ok (.iload_n 2, 1) := by decide +kernel
theorem dX3_tag_21 : decode cX3_tag 21 = .ok (.iconst 2, 1) := by decide +kernel
theorem dX3_tag_22 : decode cX3_tag 22 = .ok (.if_icmp .le 5, 3) := by decide +kernel
theorem dX3_tag_25 : decode cX3_tag 25 = .ok (.iconst (-1), 1) := by decide +kernel
theorem dX3_tag_26 : decode cX3_tag 26 = .ok (.ireturn, 1) := by decide +kernel
theorem dX3_tag_27 : decode cX3_tag 27 = .ok (.iconst 0, 1) := by decide +kernel
theorem dX3_tag_28 : decode cX3_tag 28 = .ok (.istore_n 3, 1) := by decide +kernel
theorem dX3_tag_29 : decode cX3_tag 29 = .ok (.iconst 0, 1) := by decide +kernel
theorem dX3_tag_30 : decode cX3_tag 30 = .ok (.istore 4, 2) := by decide +kernel
theorem dX3_tag_32 : decode cX3_tag 32 = .ok (.iload 4, 2) := by decide +kernel
theorem dX3_tag_34 : decode cX3_tag 34 = .ok (.aload_n 0, 1) := by decide +kernel
theorem dX3_tag_35 : decode cX3_tag 35 = .ok (.getfield 57, 3) := by decide +kernel
theorem dX3_tag_38 : decode cX3_tag 38 = .ok (.if_icmp .ge 38, 3) := by decide +kernel
theorem dX3_tag_41 : decode cX3_tag 41 = .ok (.iload_n 3, 1) := by decide +kernel
theorem dX3_tag_42 : decode cX3_tag 42 = .ok (.aload_n 0, 1) := by decide +kernel
theorem dX3_tag_43 : decode cX3_tag 43 = .ok (.getfield 22, 3) := by decide +kernel
theorem dX3_tag_46 : decode cX3_tag 46 = .ok (.iload 4, 2) := by decide +kernel
theorem dX3_tag_48 : decode cX3_tag 48 = .ok (.iaload, 1) := by decide +kernel
theorem dX3_tag_49 : decode cX3_tag 49 = .ok (.iload_n 1, 1) := by decide +kernel
theorem dX3_tag_50 : decode cX3_tag 50 = .ok (.if_icmp .ne 17, 3) := by decide +kernel
theorem dX3_tag_53 : decode cX3_tag 53 = .ok (.aload_n 0, 1) := by decide +kernel
theorem dX3_tag_54 : decode cX3_tag 54 = .ok (.iload 4, 2) := by decide +kernel
theorem dX3_tag_56 : decode cX3_tag 56 = .ok (.iload_n 2, 1) := by decide +kernel
theorem dX3_tag_57 : decode cX3_tag 57 = .ok (.invokevirtual 87, 3) := by decide +kernel
theorem dX3_tag_60 : decode cX3_tag 60 = .ok (.ifCond .eq 7, 3) := by decide +kernel
theorem dX3_tag_63 : decode cX3_tag 63 = .ok (.iconst 1, 1) := by decide +kernel
theorem dX3_tag_64 : decode cX3_tag 64 = .ok (.goto 4, 3) := by decide +kernel
theorem dX3_tag_67 : decode cX3_tag 67 = .ok (.iconst 0, 1) := by decide +kernel
theorem dX3_tag_68 : decode cX3_tag 68 = .ok (.iadd, 1) := by decide +kernel
theorem dX3_tag_69 : decode cX3_tag 69 = .ok (.istore_n 3, 1) := by decide +kernel
theorem dX3_tag_70 : decode cX3_tag 70 = .ok (.iinc 4 1, 3) := by decide +kernel
theorem dX3_tag_73 : decode cX3_tag 73 = .ok (.goto (-41), 3) := by decide +kernel
theorem dX3_tag_76 : decode cX3_tag 76 = .ok (.iload_n 3, 1) := by decide +kernel
theorem dX3_tag_77 : decode cX3_tag 77 = .ok (.ireturn, 1) := by decide +kernel
theorem dX3_enter_0 : decode cX3_enter 0 = .ok (.aload_n 0, 1) := by decide +kernel
theorem dX3_enter_1 : decode cX3_enter 1 = .ok (.iconst 0, 1) := by decide +kernel
theorem dX3_enter_2 : decode cX3_enter 2 = .ok (.putfield 54, 3) := by decide +kernel
theorem dX3_enter_5 : decode cX3_enter 5 = .ok (.iload_n 1, 1) := by decide +kernel
theorem dX3_enter_6 : decode cX3_enter 6 = .ok (.iconst (-1), 1) := by decide +kernel
theorem dX3_enter_7 : decode cX3_enter 7 = .ok (.if_icmp .eq 13, 3) := by decide +kernel
theorem dX3_enter_10 : decode cX3_enter 10 = .ok (.aload_n 0, 1) := by decide +kernel
theorem dX3_enter_11 : decode cX3_enter 11 = .ok (.iload_n 1, 1) := by decide +kernel
theorem dX3_enter_12 : decode cX3_enter 12 = .ok (.invokevirtual 63, 3) := by decide +kernel
