theorem dX0_init_0 : decode cX0_init 0 = .ok (.aload_n 0, 1) := by decide +kernel
theorem dX0_init_1 : decode cX0_init 1 = .ok (.invokespecial 1, 3) := by decide +kernel
theorem dX0_init_4 : decode cX0_init 4 = .ok (.aload_n 0, 1) := by decide +kernel
theorem dX0_init_5 : decode cX0_init 5 = .ok (.iconst 0, 1) := by decide +kernel
theorem dX0_init_6 : decode cX0_init 6 = .ok (.putfield 7, 3) := by decide +kernel
theorem dX0_init_9 : decode cX0_init 9 = .ok (.aload_n 0, 1) := by decide +kernel
theorem dX0_init_10 : decode cX0_init 10 = .ok (.iconst 0, 1) := by decide +kernel
theorem dX0_init_11 : decode cX0_init 11 = .ok (.putfield 13, 3) := by decide +kernel
theorem dX0_init_14 : decode cX0_init 14 = .ok (.aload_n 0, 1) := by decide +kernel
theorem dX0_init_15 : decode cX0_init 15 = .ok (.iconst 0, 1) := by decide +kernel
theorem dX0_init_16 : decode cX0_init 16 = .ok (.putfield 16, 3) := by decide +kernel
theorem dX0_init_19 : decode cX0_init 19 = .ok (.aload_n 0, 1) := by decide +kernel
theorem dX0_init_20 : decode cX0_init 20 = .ok (.iconst 0, 1) := by decide +kernel
theorem dX0_init_21 : decode cX0_init 21 = .ok (.putfield 19, 3) := by decide +kernel
theorem dX0_init_24 : decode cX0_init 24 = .ok (.return_, 1) := by decide +kernel
theorem dX0_find_0 : decode cX0_find 0 = .ok (.aload_n 0, 1) := by decide +kernel
theorem dX0_find_1 : decode cX0_find 1 = .ok (.iload_n 3, 1) := by decide +kernel
theorem dX0_find_2 : decode cX0_find 2 = .ok (.putfield 7, 3) := by decide +kernel
theorem dX0_find_5 : decode cX0_find 5 = .ok (.aload_n 0, 1) := by decide +kernel
theorem dX0_find_6 : decode cX0_find 6 = .ok (.iload 6, 2) := by decide +kernel
theorem dX0_find_8 : decode cX0_find 8 = .ok (.putfield 13, 3) := by decide +kernel
theorem dX0_find_11 : decode cX0_find 11 = .ok (.aload_n 0, 1) := by decide +kernel
theorem dX0_find_12 : decode cX0_find 12 = .ok (.iconst 0, 1) := by decide +kernel
theorem dX0_find_13 : decode cX0_find 13 = .ok (.putfield 16, 3) := by decide +kernel
theorem dX0_find_16 : decode cX0_find 16 = .ok (.aload_n 0, 1) := by decide +kernel
theorem dX0_find_17 : decode cX0_find 17 = .ok (.iconst (-1), 1) := by decide +kernel
theorem dX0_find_18 : decode cX0_find 18 = .ok (.putfield 19, 3) := by decide +kernel
theorem dX0_find_21 : decode cX0_find 21 = .ok (.aload_n 0, 1) := by decide +kernel
theorem dX0_find_22 : decode cX0_find 22 = .ok (.aload_n 1, 1) := by decide +kernel
theorem dX0_find_23 : decode cX0_find 23 = .ok (.aload_n 2, 1) := by decide +kernel
theorem dX0_find_24 : decode cX0_find 24 = .ok (.iconst 0, 1) := by decide +kernel
theorem dX0_find_25 : decode cX0_find 25 = .ok (.iload 4, 2) := by decide +kernel
theorem dX0_find_27 : decode cX0_find 27 = .ok (.iload 5, 2) := by decide +kernel
theorem dX0_find_29 : decode cX0_find 29 = .ok (.iconst 0, 1) := by decide +kernel
theorem dX0_find_30 : decode cX0_find 30 = .ok (.invokevirtual 22, 3) := by decide +kernel
theorem dX0_find_33 : decode cX0_find 33 = .ok (.return_, 1) := by decide +kernel
theorem dX0_follow_0 : decode cX0_follow 0 = .ok (.iload_n 3, 1) := by decide +kernel
theorem dX0_follow_1 : decode cX0_follow 1 = .ok (.aload_n 1, 1) := by decide +kernel
theorem dX0_follow_2 : decode cX0_follow 2 = .ok (.getfield 26, 3) := by decide +kernel
theorem dX0_follow_5 : decode cX0_follow 5 = .ok (.if_icmp .lt 34, 3) := by decide +kernel
theorem dX0_follow_8 : decode cX0_follow 8 = .ok (.iload 5, 2) := by decide +kernel
theorem dX0_follow_10 : decode cX0_follow 10 = .ok (.aload_n 0, 1) := by decide +kernel
theorem dX0_follow_11 : decode cX0_follow 11 = .ok (.getfield 13, 3) := by decide +kernel
theorem dX0_follow_14 : decode cX0_follow 14 = .ok (.if_icmp .ne 24, 3) := by decide +kernel
theorem dX0_follow_17 : decode cX0_follow 17 = .ok (.aload_n 0, 1) := by decide +kernel
theorem dX0_follow_18 : decode cX0_follow 18 = .ok (.dup, 1) := by decide +kernel
theorem dX0_follow_19 : decode cX0_follow 19 = .ok (.getfield 16, 3) := by decide +kernel
theorem dX0_follow_22 : decode cX0_follow 22 = .ok (.iconst 1, 1) := by decide +kernel
theorem dX0_follow_23 : decode cX0_follow 23 = .ok (.iadd, 1) := by decide +kernel
theorem dX0_follow_24 : decode cX0_follow 24 = .ok (.putfield 16, 3) := by decide +kernel
theorem dX0_follow_27 : decode cX0_follow 27 = .ok (.aload_n 0, 1) := by decide +kernel
theorem dX0_follow_28 : decode cX0_follow 28 = .ok (.dup, 1) := by decide +kernel
theorem dX0_follow_29 : decode cX0_follow 29 = .ok (.getfield 19, 3) := by decide +kernel
theorem dX0_follow_32 : decode cX0_follow 32 = .ok (.iload 6, 2) := by decide +kernel
theorem dX0_follow_34 : decode cX0_follow 34 = .ok (.iand, 1) := by decide +kernel
theorem dX0_follow_35 : decode cX0_follow 35 = .ok (.putfield 19, 3) := by decide +kernel
theorem dX0_follow_38 : decode cX0_follow 38 = .ok (.return_, 1) := by decide +kernel
theorem dX0_follow_39 : decode cX0_follow 39 = .ok (.aload_n 0, 1) := by decide +kernel
theorem dX0_follow_40 : decode cX0_follow 40 = .ok (.getfield 7, 3) := by decide +kernel
theorem dX0_follow_43 : decode cX0_follow 43 = .ok (.iload_n 3, 1) := by decide +kernel
theorem dX0_follow_44 : decode cX0_follow 44 = .ok (.invokestatic 31, 3) := by decide +kernel
theorem dX0_follow_47 : decode cX0_follow 47 = .ok (.ifCond .eq 19, 3) := by decide +kernel
theorem dX0_follow_50 : decode cX0_follow 50 = .ok (.aload_n 0, 1) := by decide +kernel
theorem dX0_follow_51 : decode cX0_follow 51 = .ok (.aload_n 1, 1) := by decide +kernel
theorem dX0_follow_52 : decode cX0_follow 52 = .ok (.aload_n 2, 1) := by decide +kernel
theorem dX0_follow_53 : decode cX0_follow 53 = .ok (.iload_n 3, 1) := by decide +kernel
theorem dX0_follow_54 : decode cX0_follow 54 = .ok (.iconst 1, 1) := by decide +kernel
theorem dX0_follow_55 : decode cX0_follow 55 = .ok (.iadd, 1) := by decide +kernel
theorem dX0_follow_56 : decode cX0_follow 56 = .ok (.iload 4, 2) := by decide +kernel
theorem dX0_follow_58 : decode cX0_follow 58 = .ok (.iload 5, 2) := by decide +kernel
theorem dX0_follow_60 : decode cX0_follow 60 = .ok (.iload 6, 2) := by decide +kernel
theorem dX0_follow_62 : decode cX0_follow 62 = .ok (.invokevirtual 22, 3) := by decide +kernel
theorem dX0_follow_65 : decode cX0_follow 65 = .ok (.return_, 1) := by decide +kernel
theorem dX0_follow_66 : decode cX0_follow 66 = .ok (.aload_n 1, 1) := by decide +kernel
theorem dX0_follow_67 : decode cX0_follow 67 = .ok (.aload_n 2, 1) := by decide +kernel
theorem dX0_follow_68 : decode cX0_follow 68 = .ok (.iload 4, 2) := by decide +kernel
theorem dX0_follow_70 : decode cX0_follow 70 = .ok (.iload_n 3, 1) := by decide +kernel
theorem dX0_follow_71 : decode cX0_follow 71 = .ok (.invokevirtual 37, 3) := by decide +kernel
theorem dX0_follow_74 : decode cX0_follow 74 = .ok (.istore 7, 2) := by decide +kernel
theorem dX0_follow_76 : decode cX0_follow 76 = .ok (.iload 7, 2) := by decide +kernel
theorem dX0_follow_78 : decode cX0_follow 78 = .ok (.iconst 1, 1) := by decide +kernel
theorem dX0_follow_79 : decode cX0_follow 79 = .ok (.invokestatic 41, 3) := by decide +kernel
theorem dX0_follow_82 : decode cX0_follow 82 = .ok (.ifCond .eq 18, 3) := by decide +kernel
theorem dX0_follow_85 : decode cX0_follow 85 = .ok (.aload_n 0, 1) := by decide +kernel
theorem dX0_follow_86 : decode cX0_follow 86 = .ok (.aload_n 1, 1) := by decide +kernel
theorem dX0_follow_87 : decode cX0_follow 87 = .ok (.aload_n 2, 1) := by decide +kernel
theorem dX0_follow_88 : decode cX0_follow 88 = .ok (.iload_n 3, 1) := by decide +kernel
theorem dX0_follow_89 : decode cX0_follow 89 = .ok (.iconst 1, 1) := by decide +kernel
theorem dX0_follow_90 : decode cX0_follow 90 = .ok (.iadd, 1) := by decide +kernel
theorem dX0_follow_91 : decode cX0_follow 91 = .ok (.iload 4, 2) := by decide +kernel
theorem dX0_follow_93 : decode cX0_follow 93 = .ok (.iload 5, 2) := by decide +kernel
theorem dX0_follow_95 : decode cX0_follow 95 = .ok (.iload 6, 2) := by decide +kernel
theorem dX0_follow_97 : decode cX0_follow 97 = .ok (.invokevirtual 22, 3) := by decide +kernel
theorem dX0_follow_100 : decode cX0_follow 100 = .ok (.iload 7, 2) := by decide +kernel
theorem dX0_follow_102 : decode cX0_follow 102 = .ok (.iconst 0, 1) := by decide +kernel
theorem dX0_follow_103 : decode cX0_follow 103 = .ok (.invokestatic 41, 3) := by decide +kernel
theorem dX0_follow_106 : decode cX0_follow 106 = .ok (.ifCond .eq 45, 3) := by decide +kernel
theorem dX0_follow_109 : decode cX0_follow 109 = .ok (.iload 5, 2) := by decide +kernel
theorem dX0_follow_111 : decode cX0_follow 111 = .ok (.aload_n 1, 1) := by decide +kernel
theorem dX0_follow_112 : decode cX0_follow 112 = .ok (.iload_n 3, 1) := by decide +kernel
theorem dX0_follow_113 : decode cX0_follow 113 = .ok (.invokevirtual 45, 3) := by decide +kernel
theorem dX0_follow_116 : decode cX0_follow 116 = .ok (.iadd, 1) := by decide +kernel
theorem dX0_follow_117 : decode cX0_follow 117 = .ok (.istore 8, 2) := by decide +kernel
theorem dX0_follow_119 : decode cX0_follow 119 = .ok (.iload 4, 2) := by decide +kernel
theorem dX0_follow_121 : decode cX0_follow 121 = .ok (.iload 8, 2) := by decide +kernel
theorem dX0_follow_123 : decode cX0_follow 123 = .ok (.aload_n 1, 1) := by decide +kernel
theorem dX0_follow_124 : decode cX0_follow 124 = .ok (.getfield 49, 3) := by decide +kernel
theorem dX0_follow_127 : decode cX0_follow 127 = .ok (.invokestatic 52, 3) := by decide +kernel
theorem dX0_follow_130 : decode cX0_follow 130 = .ok (.istore 9, 2) := by decide +kernel
theorem dX0_follow_132 : decode cX0_follow 132 = .ok (.aload_n 0, 1) := by decide +kernel
theorem dX0_follow_133 : decode cX0_follow 133 = .ok (.aload_n 1, 1) := by decide +kernel
theorem dX0_follow_134 : decode cX0_follow 134 = .ok (.aload_n 2, 1) := by decide +kernel
theorem dX0_follow_135 : decode cX0_follow 135 = .ok (.iload_n 3, 1) := by decide +kernel
theorem dX0_follow_136 : decode cX0_follow 136 = .ok (.iconst 1, 1) := by decide +kernel
theorem dX0_follow_137 : decode cX0_follow 137 = .ok (.iadd, 1) := by decide +kernel
theorem dX0_follow_138 : decode cX0_follow 138 = .ok (.iload 9, 2) := by decide +kernel
theorem dX0_follow_140 : decode cX0_follow 140 = .ok (.iload 8, 2) := by decide +kernel
theorem dX0_follow_142 : decode cX0_follow 142 = .ok (.iload 6, 2) := by decide +kernel
theorem dX0_follow_144 : decode cX0_follow 144 = .ok (.iconst 1, 1) := by decide +kernel
theorem dX0_follow_145 : decode cX0_follow 145 = .ok (.iload_n 3, 1) := by decide +kernel
theorem dX0_follow_146 : decode cX0_follow 146 = .ok (.ishl, 1) := by decide +kernel
theorem dX0_follow_147 : decode cX0_follow 147 = .ok (.ior, 1) := by decide +kernel
theorem dX0_follow_148 : decode cX0_follow 148 = .ok (.invokevirtual 22, 3) := by decide +kernel
theorem dX0_follow_151 : decode cX0_follow 151 = .ok (.return_, 1) := by decide +kernel
theorem dX1_init_0 : decode cX1_init 0 = .ok (.aload_n 0, 1) := by decide +kernel
theorem dX1_init_1 : decode cX1_init 1 = .ok (.iload_n 1, 1) := by decide +kernel
theorem dX1_init_2 : decode cX1_init 2 = .ok (.invokespecial 3, 3) := by decide +kernel
theorem dX1_init_5 : decode cX1_init 5 = .ok (.return_, 1) := by decide +kernel
theorem dX1_kind_0 : decode cX1_kind 0 = .ok (.iconst 2, 1) := by decide +kernel
theorem dX1_kind_1 : decode cX1_kind 1 = .ok (.ireturn, 1) := by decide +kernel
theorem dX1_feels_0 : decode cX1_feels 0 = .ok (.bipush 9, 2) := by decide +kernel
theorem dX1_feels_2 : decode cX1_feels 2 = .ok (.iload_n 1, 1) := by decide +kernel
theorem dX1_feels_3 : decode cX1_feels 3 = .ok (.isub, 1) := by decide +kernel
theorem dX1_feels_4 : decode cX1_feels 4 = .ok (.ireturn, 1) := by decide +kernel
theorem dX2_init_0 : decode cX2_init 0 = .ok (.aload_n 0, 1) := by decide +kernel
theorem dX2_init_1 : decode cX2_init 1 = .ok (.iload_n 1, 1) := by decide +kernel
theorem dX2_init_2 : decode cX2_init 2 = .ok (.invokespecial 3, 3) := by decide +kernel
theorem dX2_init_5 : decode cX2_init 5 = .ok (.return_, 1) := by decide +kernel
theorem dX2_kind_0 : decode cX2_kind 0 = .ok (.iconst 4, 1) := by decide +kernel
theorem dX2_kind_1 : decode cX2_kind 1 = .ok (.ireturn, 1) := by decide +kernel
theorem dX2_feels_0 : decode cX2_feels 0 = .ok (.aload_n 0, 1) := by decide +kernel
theorem dX2_feels_1 : decode cX2_feels 1 = .ok (.iload_n 1, 1) := by decide +kernel
theorem dX2_feels_2 : decode cX2_feels 2 = .ok (.invokespecial 9, 3) := by decide +kernel
theorem dX2_feels_5 : decode cX2_feels 5 = .ok (.iconst 2, 1) := by decide +kernel
theorem dX2_feels_6 : decode cX2_feels 6 = .ok (.iadd, 1) := by decide +kernel
theorem dX2_feels_7 : decode cX2_feels 7 = .ok (.ireturn, 1) := by decide +kernel
theorem dX3_init_0 : decode cX3_init 0 = .ok (.aload_n 0, 1) := by decide +kernel
theorem dX3_init_1 : decode cX3_init 1 = .ok (.iload_n 1, 1) := by decide +kernel
theorem dX3_init_2 : decode cX3_init 2 = .ok (.invokespecial 3, 3) := by decide +kernel
theorem dX3_init_5 : decode cX3_init 5 = .ok (.return_, 1) := by decide +kernel
theorem dX3_kind_0 : decode cX3_kind 0 = .ok (.iconst 3, 1) := by decide +kernel
theorem dX3_kind_1 : decode cX3_kind 1 = .ok (.ireturn, 1) := by decide +kernel
theorem dX3_feels_0 : decode cX3_feels 0 = .ok (.iload_n 1, 1) := by decide +kernel
theorem dX3_feels_1 : decode cX3_feels 1 = .ok (.iconst 2, 1) := by decide +kernel
theorem dX3_feels_2 : decode cX3_feels 2 = .ok (.idiv, 1) := by decide +kernel
theorem dX3_feels_3 : decode cX3_feels 3 = .ok (.ireturn, 1) := by decide +kernel
theorem dX4_init_0 : decode cX4_init 0 = .ok (.aload_n 0, 1) := by decide +kernel
theorem dX4_init_1 : decode cX4_init 1 = .ok (.invokespecial 3, 3) := by decide +kernel
theorem dX4_init_4 : decode cX4_init 4 = .ok (.aload_n 0, 1) := by decide +kernel
theorem dX4_init_5 : decode cX4_init 5 = .ok (.iconst 5, 1) := by decide +kernel
theorem dX4_init_6 : decode cX4_init 6 = .ok (.newarray .int, 2) := by decide +kernel
theorem dX4_init_8 : decode cX4_init 8 = .ok (.putfield 9, 3) := by decide +kernel
theorem dX4_init_11 : decode cX4_init 11 = .ok (.aload_n 0, 1) := by decide +kernel
theorem dX4_init_12 : decode cX4_init 12 = .ok (.iconst 5, 1) := by decide +kernel
theorem dX4_init_13 : decode cX4_init 13 = .ok (.newarray .int, 2) := by decide +kernel
theorem dX4_init_15 : decode cX4_init 15 = .ok (.putfield 15, 3) := by decide +kernel
theorem dX4_init_18 : decode cX4_init 18 = .ok (.aload_n 0, 1) := by decide +kernel
theorem dX4_init_19 : decode cX4_init 19 = .ok (.iconst 0, 1) := by decide +kernel
theorem dX4_init_20 : decode cX4_init 20 = .ok (.putfield 18, 3) := by decide +kernel
theorem dX4_init_23 : decode cX4_init 23 = .ok (.aload_n 0, 1) := by decide +kernel
theorem dX4_init_24 : decode cX4_init 24 = .ok (.lconst 1, 1) := by decide +kernel
theorem dX4_init_25 : decode cX4_init 25 = .ok (.putfield 22, 3) := by decide +kernel
theorem dX4_init_28 : decode cX4_init 28 = .ok (.aload_n 0, 1) := by decide +kernel
theorem dX4_init_29 : decode cX4_init 29 = .ok (.lconst 0, 1) := by decide +kernel
theorem dX4_init_30 : decode cX4_init 30 = .ok (.putfield 26, 3) := by decide +kernel
theorem dX4_init_33 : decode cX4_init 33 = .ok (.return_, 1) := by decide +kernel
theorem dX4_find_0 : decode cX4_find 0 = .ok (.aload_n 0, 1) := by decide +kernel
theorem dX4_find_1 : decode cX4_find 1 = .ok (.iconst 0, 1) := by decide +kernel
theorem dX4_find_2 : decode cX4_find 2 = .ok (.putfield 18, 3) := by decide +kernel
theorem dX4_find_5 : decode cX4_find 5 = .ok (.aload_n 0, 1) := by decide +kernel
theorem dX4_find_6 : decode cX4_find 6 = .ok (.lconst 1, 1) := by decide +kernel
theorem dX4_find_7 : decode cX4_find 7 = .ok (.putfield 22, 3) := by decide +kernel
theorem dX4_find_10 : decode cX4_find 10 = .ok (.iconst 0, 1) := by decide +kernel
theorem dX4_find_11 : decode cX4_find 11 = .ok (.istore 6, 2) := by decide +kernel
theorem dX4_find_13 : decode cX4_find 13 = .ok (.iload 6, 2) := by decide +kernel
theorem dX4_find_15 : decode cX4_find 15 = .ok (.aload_n 1, 1) := by decide +kernel
theorem dX4_find_16 : decode cX4_find 16 = .ok (.getfield 29, 3) := by decide +kernel
theorem dX4_find_19 : decode cX4_find 19 = .ok (.if_icmp .ge 40, 3) := by decide +kernel
theorem dX4_find_22 : decode cX4_find 22 = .ok (.iload_n 3, 1) := by decide +kernel
theorem dX4_find_23 : decode cX4_find 23 = .ok (.iload 6, 2) := by decide +kernel
theorem dX4_find_25 : decode cX4_find 25 = .ok (.invokestatic 34, 3) := by decide +kernel
theorem dX4_find_28 : decode cX4_find 28 = .ok (.ifCond .ne 25, 3) := by decide +kernel
theorem dX4_find_31 : decode cX4_find 31 = .ok (.aload_n 0, 1) := by decide +kernel
theorem dX4_find_32 : decode cX4_find 32 = .ok (.dup, 1) := by decide +kernel
theorem dX4_find_33 : decode cX4_find 33 = .ok (.getfield 18, 3) := by decide +kernel
theorem dX4_find_36 : decode cX4_find 36 = .ok (.iconst 1, 1) := by decide +kernel
theorem dX4_find_37 : decode cX4_find 37 = .ok (.iadd, 1) := by decide +kernel
theorem dX4_find_38 : decode cX4_find 38 = .ok (.putfield 18, 3) := by decide +kernel
theorem dX4_find_41 : decode cX4_find 41 = .ok (.aload_n 0, 1) := by decide +kernel
theorem dX4_find_42 : decode cX4_find 42 = .ok (.dup, 1) := by decide +kernel
theorem dX4_find_43 : decode cX4_find 43 = .ok (.getfield 22, 3) := by decide +kernel
theorem dX4_find_46 : decode cX4_find 46 = .ok (.ldc2_w 38, 3) := by decide +kernel
theorem dX4_find_49 : decode cX4_find 49 = .ok (.lmul, 1) := by decide +kernel
theorem dX4_find_50 : decode cX4_find 50 = .ok (.putfield 22, 3) := by decide +kernel
theorem dX4_find_53 : decode cX4_find 53 = .ok (.iinc 6 1, 3) := by decide +kernel
theorem dX4_find_56 : decode cX4_find 56 = .ok (.goto (-43), 3) := by decide +kernel
theorem dX4_find_59 : decode cX4_find 59 = .ok (.aload_n 0, 1) := by decide +kernel
theorem dX4_find_60 : decode cX4_find 60 = .ok (.ldc2_w 40, 3) := by decide +kernel
theorem dX4_find_63 : decode cX4_find 63 = .ok (.putfield 26, 3) := by decide +kernel
theorem dX4_find_66 : decode cX4_find 66 = .ok (.aload_n 0, 1) := by decide +kernel
theorem dX4_find_67 : decode cX4_find 67 = .ok (.aload_n 1, 1) := by decide +kernel
theorem dX4_find_68 : decode cX4_find 68 = .ok (.aload_n 2, 1) := by decide +kernel
theorem dX4_find_69 : decode cX4_find 69 = .ok (.iload 4, 2) := by decide +kernel
theorem dX4_find_71 : decode cX4_find 71 = .ok (.iload 5, 2) := by decide +kernel
theorem dX4_find_73 : decode cX4_find 73 = .ok (.iconst 0, 1) := by decide +kernel
theorem dX4_find_74 : decode cX4_find 74 = .ok (.iload_n 3, 1) := by decide +kernel
theorem dX4_find_75 : decode cX4_find 75 = .ok (.invokevirtual 42, 3) := by decide +kernel
theorem dX4_find_78 : decode cX4_find 78 = .ok (.return_, 1) := by decide +kernel
theorem dX4_arrange_0 : decode cX4_arrange 0 = .ok (.iload 5, 2) := by decide +kernel
theorem dX4_arrange_2 : decode cX4_arrange 2 = .ok (.aload_n 0, 1) := by decide +kernel
theorem dX4_arrange_3 : decode cX4_arrange 3 = .ok (.getfield 18, 3) := by decide +kernel
theorem dX4_arrange_6 : decode cX4_arrange 6 = .ok (.if_icmp .lt 58, 3) := by decide +kernel
theorem dX4_arrange_9 : decode cX4_arrange 9 = .ok (.aload_n 0, 1) := by decide +kernel
theorem dX4_arrange_10 : decode cX4_arrange 10 = .ok (.aload_n 1, 1) := by decide +kernel
theorem dX4_arrange_11 : decode cX4_arrange 11 = .ok (.aload_n 2, 1) := by decide +kernel
theorem dX4_arrange_12 : decode cX4_arrange 12 = .ok (.iload_n 3, 1) := by decide +kernel
theorem dX4_arrange_13 : decode cX4_arrange 13 = .ok (.iload 4, 2) := by decide +kernel
theorem dX4_arrange_15 : decode cX4_arrange 15 = .ok (.iconst 0, 1) := by decide +kernel
theorem dX4_arrange_16 : decode cX4_arrange 16 = .ok (.aload_n 0, 1) := by decide +kernel
theorem dX4_arrange_17 : decode cX4_arrange 17 = .ok (.getfield 22, 3) := by decide +kernel
theorem dX4_arrange_20 : decode cX4_arrange 20 = .ok (.invokevirtual 46, 3) := by decide +kernel
theorem dX4_arrange_23 : decode cX4_arrange 23 = .ok (.lstore 7, 2) := by decide +kernel
theorem dX4_arrange_25 : decode cX4_arrange 25 = .ok (.aload_n 0, 1) := by decide +kernel
theorem dX4_arrange_26 : decode cX4_arrange 26 = .ok (.getfield 26, 3) := by decide +kernel
theorem dX4_arrange_29 : decode cX4_arrange 29 = .ok (.ldc2_w 40, 3) := by decide +kernel
theorem dX4_arrange_32 : decode cX4_arrange 32 = .ok (.lcmp, 1) := by decide +kernel
theorem dX4_arrange_33 : decode cX4_arrange 33 = .ok (.ifCond .eq 13, 3) := by decide +kernel
theorem dX4_arrange_36 : decode cX4_arrange 36 = .ok (.lload 7, 2) := by decide +kernel
theorem dX4_arrange_38 : decode cX4_arrange 38 = .ok (.aload_n 0, 1) := by decide +kernel
theorem dX4_arrange_39 : decode cX4_arrange 39 = .ok (.getfield 26, 3) := by decide +kernel
theorem dX4_arrange_42 : decode cX4_arrange 42 = .ok (.lcmp, 1) := by decide +kernel
theorem dX4_arrange_43 : decode cX4_arrange 43 = .ok (.ifCond .ge 20, 3) := by decide +kernel
theorem dX4_arrange_46 : decode cX4_arrange 46 = .ok (.aload_n 0, 1) := by decide +kernel
theorem dX4_arrange_47 : decode cX4_arrange 47 = .ok (.lload 7, 2) := by decide +kernel
theorem dX4_arrange_49 : decode cX4_arrange 49 = .ok (.putfield 26, 3) := by decide +kernel
theorem dX4_arrange_52 : decode cX4_arrange 52 = .ok (.aload_n 0, 1) := by decide +kernel
theorem dX4_arrange_53 : decode cX4_arrange 53 = .ok (.getfield 9, 3) := by decide +kernel
theorem dX4_arrange_56 : decode cX4_arrange 56 = .ok (.aload_n 0, 1) := by decide +kernel
theorem dX4_arrange_57 : decode cX4_arrange 57 = .ok (.getfield 15, 3) := by decide +kernel
theorem dX4_arrange_60 : decode cX4_arrange 60 = .ok (.invokestatic 50, 3) := by decide +kernel
theorem dX4_arrange_63 : decode cX4_arrange 63 = .ok (.return_, 1) := by decide +kernel
theorem dX4_arrange_64 : decode cX4_arrange 64 = .ok (.iconst 0, 1) := by decide +kernel
theorem dX4_arrange_65 : decode cX4_arrange 65 = .ok (.istore 7, 2) := by decide +kernel
theorem dX4_arrange_67 : decode cX4_arrange 67 = .ok (.iload 7, 2) := by decide +kernel
theorem dX4_arrange_69 : decode cX4_arrange 69 = .ok (.aload_n 1, 1) := by decide +kernel
theorem dX4_arrange_70 : decode cX4_arrange 70 = .ok (.getfield 29, 3) := by decide +kernel
theorem dX4_arrange_73 : decode cX4_arrange 73 = .ok (.if_icmp .ge 50, 3) := by decide +kernel
theorem dX4_arrange_76 : decode cX4_arrange 76 = .ok (.iload 6, 2) := by decide +kernel
theorem dX4_arrange_78 : decode cX4_arrange 78 = .ok (.iload 7, 2) := by decide +kernel
theorem dX4_arrange_80 : decode cX4_arrange 80 = .ok (.invokestatic 34, 3) := by decide +kernel
theorem dX4_arrange_83 : decode cX4_arrange 83 = .ok (.ifCond .ne 34, 3) := by decide +kernel
theorem dX4_arrange_86 : decode cX4_arrange 86 = .ok (.aload_n 0, 1) := by decide +kernel
theorem dX4_arrange_87 : decode cX4_arrange 87 = .ok (.getfield 9, 3) := by decide +kernel
theorem dX4_arrange_90 : decode cX4_arrange 90 = .ok (.iload 5, 2) := by decide +kernel
theorem dX4_arrange_92 : decode cX4_arrange 92 = .ok (.iload 7, 2) := by decide +kernel
theorem dX4_arrange_94 : decode cX4_arrange 94 = .ok (.invokestatic 54, 3) := by decide +kernel
theorem dX4_arrange_97 : decode cX4_arrange 97 = .ok (.aload_n 0, 1) := by decide +kernel
theorem dX4_arrange_98 : decode cX4_arrange 98 = .ok (.aload_n 1, 1) := by decide +kernel
theorem dX4_arrange_99 : decode cX4_arrange 99 = .ok (.aload_n 2, 1) := by decide +kernel
theorem dX4_arrange_100 : decode cX4_arrange 100 = .ok (.iload_n 3, 1) := by decide +kernel
theorem dX4_arrange_101 : decode cX4_arrange 101 = .ok (.iload 4, 2) := by decide +kernel
theorem dX4_arrange_103 : decode cX4_arrange 103 = .ok (.iload 5, 2) := by decide +kernel
theorem dX4_arrange_105 : decode cX4_arrange 105 = .ok (.iconst 1, 1) := by decide +kernel
theorem dX4_arrange_106 : decode cX4_arrange 106 = .ok (.iadd, 1) := by decide +kernel
theorem dX4_arrange_107 : decode cX4_arrange 107 = .ok (.iload 6, 2) := by decide +kernel
theorem dX4_arrange_109 : decode cX4_arrange 109 = .ok (.iconst 1, 1) := by decide +kernel
theorem dX4_arrange_110 : decode cX4_arrange 110 = .ok (.iload 7, 2) := by decide +kernel
theorem dX4_arrange_112 : decode cX4_arrange 112 = .ok (.ishl, 1) := by decide +kernel
theorem dX4_arrange_113 : decode cX4_arrange 113 = .ok (.ior, 1) := by decide +kernel
theorem dX4_arrange_114 : decode cX4_arrange 114 = .ok (.invokevirtual 42, 3) := by decide +kernel
theorem dX4_arrange_117 : decode cX4_arrange 117 = .ok (.iinc 7 1, 3) := by decide +kernel
theorem dX4_arrange_120 : decode cX4_arrange 120 = .ok (.goto (-53), 3) := by decide +kernel
theorem dX4_arrange_123 : decode cX4_arrange 123 = .ok (.return_, 1) := by decide +kernel
theorem dX4_meanFrom_0 : decode cX4_meanFrom 0 = .ok (.iload 5, 2) := by decide +kernel
theorem dX4_meanFrom_2 : decode cX4_meanFrom 2 = .ok (.aload_n 0, 1) := by decide +kernel
theorem dX4_meanFrom_3 : decode cX4_meanFrom 3 = .ok (.getfield 18, 3) := by decide +kernel
theorem dX4_meanFrom_6 : decode cX4_meanFrom 6 = .ok (.if_icmp .lt 5, 3) := by decide +kernel
theorem dX4_meanFrom_9 : decode cX4_meanFrom 9 = .ok (.lconst 0, 1) := by decide +kernel
theorem dX4_meanFrom_10 : decode cX4_meanFrom 10 = .ok (.lreturn, 1) := by decide +kernel
theorem dX4_meanFrom_11 : decode cX4_meanFrom 11 = .ok (.aload_n 0, 1) := by decide +kernel
theorem dX4_meanFrom_12 : decode cX4_meanFrom 12 = .ok (.getfield 9, 3) := by decide +kernel
theorem dX4_meanFrom_15 : decode cX4_meanFrom 15 = .ok (.iload 5, 2) := by decide +kernel
theorem dX4_meanFrom_17 : decode cX4_meanFrom 17 = .ok (.invokestatic 58, 3) := by decide +kernel
theorem dX4_meanFrom_20 : decode cX4_meanFrom 20 = .ok (.istore 8, 2) := by decide +kernel
theorem dX4_meanFrom_22 : decode cX4_meanFrom 22 = .ok (.aload_n 1, 1) := by decide +kernel
theorem dX4_meanFrom_23 : decode cX4_meanFrom 23 = .ok (.aload_n 2, 1) := by decide +kernel
theorem dX4_meanFrom_24 : decode cX4_meanFrom 24 = .ok (.iload_n 3, 1) := by decide +kernel
theorem dX4_meanFrom_25 : decode cX4_meanFrom 25 = .ok (.iload 8, 2) := by decide +kernel
theorem dX4_meanFrom_27 : decode cX4_meanFrom 27 = .ok (.invokevirtual 62, 3) := by decide +kernel
theorem dX4_meanFrom_30 : decode cX4_meanFrom 30 = .ok (.istore 9, 2) := by decide +kernel
theorem dX4_meanFrom_32 : decode cX4_meanFrom 32 = .ok (.lload 6, 2) := by decide +kernel
theorem dX4_meanFrom_34 : decode cX4_meanFrom 34 = .ok (.ldc2_w 38, 3) := by decide +kernel
theorem dX4_meanFrom_37 : decode cX4_meanFrom 37 = .ok (.ldiv, 1) := by decide +kernel
theorem dX4_meanFrom_38 : decode cX4_meanFrom 38 = .ok (.lstore 10, 2) := by decide +kernel
theorem dX4_meanFrom_40 : decode cX4_meanFrom 40 = .ok (.lconst 0, 1) := by decide +kernel
theorem dX4_meanFrom_41 : decode cX4_meanFrom 41 = .ok (.lstore 12, 2) := by decide +kernel
theorem dX4_meanFrom_43 : decode cX4_meanFrom 43 = .ok (.iload 9, 2) := by decide +kernel
theorem dX4_meanFrom_45 : decode cX4_meanFrom 45 = .ok (.iconst 1, 1) := by decide +kernel
theorem dX4_meanFrom_46 : decode cX4_meanFrom 46 = .ok (.invokestatic 66, 3) := by decide +kernel
theorem dX4_meanFrom_49 : decode cX4_meanFrom 49 = .ok (.ifCond .eq 27, 3) := by decide +kernel
theorem dX4_meanFrom_52 : decode cX4_meanFrom 52 = .ok (.lload 12, 2) := by decide +kernel
theorem dX4_meanFrom_54 : decode cX4_meanFrom 54 = .ok (.iload 9, 2) := by decide +kernel
theorem dX4_meanFrom_56 : decode cX4_meanFrom 56 = .ok (.i2l, 1) := by decide +kernel
theorem dX4_meanFrom_57 : decode cX4_meanFrom 57 = .ok (.aload_n 0, 1) := by decide +kernel
theorem dX4_meanFrom_58 : decode cX4_meanFrom 58 = .ok (.aload_n 1, 1) := by decide +kernel
theorem dX4_meanFrom_59 : decode cX4_meanFrom 59 = .ok (.aload_n 2, 1) := by decide +kernel
theorem dX4_meanFrom_60 : decode cX4_meanFrom 60 = .ok (.iload_n 3, 1) := by decide +kernel
theorem dX4_meanFrom_61 : decode cX4_meanFrom 61 = .ok (.iload 4, 2) := by decide +kernel
theorem dX4_meanFrom_63 : decode cX4_meanFrom 63 = .ok (.iload 5, 2) := by decide +kernel
theorem dX4_meanFrom_65 : decode cX4_meanFrom 65 = .ok (.iconst 1, 1) := by decide +kernel
theorem dX4_meanFrom_66 : decode cX4_meanFrom 66 = .ok (.iadd, 1) := by decide +kernel
theorem dX4_meanFrom_67 : decode cX4_meanFrom 67 = .ok (.lload 10, 2) := by decide +kernel
theorem dX4_meanFrom_69 : decode cX4_meanFrom 69 = .ok (.invokevirtual 46, 3) := by decide +kernel
theorem dX4_meanFrom_72 : decode cX4_meanFrom 72 = .ok (.lmul, 1) := by decide +kernel
theorem dX4_meanFrom_73 : decode cX4_meanFrom 73 = .ok (.ladd, 1) := by decide +kernel
theorem dX4_meanFrom_74 : decode cX4_meanFrom 74 = .ok (.lstore 12, 2) := by decide +kernel
theorem dX4_meanFrom_76 : decode cX4_meanFrom 76 = .ok (.iload 9, 2) := by decide +kernel
theorem dX4_meanFrom_78 : decode cX4_meanFrom 78 = .ok (.iconst 0, 1) := by decide +kernel
theorem dX4_meanFrom_79 : decode cX4_meanFrom 79 = .ok (.invokestatic 66, 3) := by decide +kernel
theorem dX4_meanFrom_82 : decode cX4_meanFrom 82 = .ok (.ifCond .eq 69, 3) := by decide +kernel
theorem dX4_meanFrom_85 : decode cX4_meanFrom 85 = .ok (.aload_n 1, 1) := by decide +kernel
theorem dX4_meanFrom_86 : decode cX4_meanFrom 86 = .ok (.iload 8, 2) := by decide +kernel
theorem dX4_meanFrom_88 : decode cX4_meanFrom 88 = .ok (.invokevirtual 70, 3) := by decide +kernel
theorem dX4_meanFrom_91 : decode cX4_meanFrom 91 = .ok (.istore 14, 2) := by decide +kernel
theorem dX4_meanFrom_93 : decode cX4_meanFrom 93 = .ok (.iload 4, 2) := by decide +kernel
theorem dX4_meanFrom_95 : decode cX4_meanFrom 95 = .ok (.iload 14, 2) := by decide +kernel
theorem dX4_meanFrom_97 : decode cX4_meanFrom 97 = .ok (.iadd, 1) := by decide +kernel
theorem dX4_meanFrom_98 : decode cX4_meanFrom 98 = .ok (.istore 15, 2) := by decide +kernel
theorem dX4_meanFrom_100 : decode cX4_meanFrom 100 = .ok (.iload_n 3, 1) := by decide +kernel
theorem dX4_meanFrom_101 : decode cX4_meanFrom 101 = .ok (.iload 15, 2) := by decide +kernel
theorem dX4_meanFrom_103 : decode cX4_meanFrom 103 = .ok (.aload_n 1, 1) := by decide +kernel
theorem dX4_meanFrom_104 : decode cX4_meanFrom 104 = .ok (.getfield 74, 3) := by decide +kernel
theorem dX4_meanFrom_107 : decode cX4_meanFrom 107 = .ok (.invokestatic 77, 3) := by decide +kernel
theorem dX4_meanFrom_110 : decode cX4_meanFrom 110 = .ok (.istore 16, 2) := by decide +kernel
theorem dX4_meanFrom_112 : decode cX4_meanFrom 112 = .ok (.aload_n 0, 1) := by decide +kernel
theorem dX4_meanFrom_113 : decode cX4_meanFrom 113 = .ok (.aload_n 1, 1) := by decide +kernel
theorem dX4_meanFrom_114 : decode cX4_meanFrom 114 = .ok (.aload_n 2, 1) := by decide +kernel
theorem dX4_meanFrom_115 : decode cX4_meanFrom 115 = .ok (.iload 16, 2) := by decide +kernel
theorem dX4_meanFrom_117 : decode cX4_meanFrom 117 = .ok (.iload 15, 2) := by decide +kernel
theorem dX4_meanFrom_119 : decode cX4_meanFrom 119 = .ok (.iload 5, 2) := by decide +kernel
theorem dX4_meanFrom_121 : decode cX4_meanFrom 121 = .ok (.iconst 1, 1) := by decide +kernel
theorem dX4_meanFrom_122 : decode cX4_meanFrom 122 = .ok (.iadd, 1) := by decide +kernel
theorem dX4_meanFrom_123 : decode cX4_meanFrom 123 = .ok (.lload 10, 2) := by decide +kernel
theorem dX4_meanFrom_125 : decode cX4_meanFrom 125 = .ok (.invokevirtual 46, 3) := by decide +kernel
theorem dX4_meanFrom_128 : decode cX4_meanFrom 128 = .ok (.lstore 17, 2) := by decide +kernel
theorem dX4_meanFrom_130 : decode cX4_meanFrom 130 = .ok (.lload 12, 2) := by decide +kernel
theorem dX4_meanFrom_132 : decode cX4_meanFrom 132 = .ok (.bipush 10, 2) := by decide +kernel
theorem dX4_meanFrom_134 : decode cX4_meanFrom 134 = .ok (.iload 9, 2) := by decide +kernel
theorem dX4_meanFrom_136 : decode cX4_meanFrom 136 = .ok (.isub, 1) := by decide +kernel
theorem dX4_meanFrom_137 : decode cX4_meanFrom 137 = .ok (.i2l, 1) := by decide +kernel
theorem dX4_meanFrom_138 : decode cX4_meanFrom 138 = .ok (.iload 14, 2) := by decide +kernel
theorem dX4_meanFrom_140 : decode cX4_meanFrom 140 = .ok (.i2l, 1) := by decide +kernel
theorem dX4_meanFrom_141 : decode cX4_meanFrom 141 = .ok (.lload 10, 2) := by decide +kernel
theorem dX4_meanFrom_143 : decode cX4_meanFrom 143 = .ok (.lmul, 1) := by decide +kernel
theorem dX4_meanFrom_144 : decode cX4_meanFrom 144 = .ok (.lload 17, 2) := by decide +kernel
theorem dX4_meanFrom_146 : decode cX4_meanFrom 146 = .ok (.ladd, 1) := by decide +kernel
theorem dX4_meanFrom_147 : decode cX4_meanFrom 147 = .ok (.lmul, 1) := by decide +kernel
theorem dX4_meanFrom_148 : decode cX4_meanFrom 148 = .ok (.ladd, 1) := by decide +kernel
theorem dX4_meanFrom_149 : decode cX4_meanFrom 149 = .ok (.lstore 12, 2) := by decide +kernel
theorem dX4_meanFrom_151 : decode cX4_meanFrom 151 = .ok (.lload 12, 2) := by decide +kernel
theorem dX4_meanFrom_153 : decode cX4_meanFrom 153 = .ok (.lreturn, 1) := by decide +kernel
theorem dX4_lessonAt_0 : decode cX4_lessonAt 0 = .ok (.iload_n 1, 1) := by decide +kernel
theorem dX4_lessonAt_1 : decode cX4_lessonAt 1 = .ok (.aload_n 0, 1) := by decide +kernel
theorem dX4_lessonAt_2 : decode cX4_lessonAt 2 = .ok (.getfield 18, 3) := by decide +kernel
theorem dX4_lessonAt_5 : decode cX4_lessonAt 5 = .ok (.if_icmp .ge 14, 3) := by decide +kernel
theorem dX4_lessonAt_8 : decode cX4_lessonAt 8 = .ok (.aload_n 0, 1) := by decide +kernel
theorem dX4_lessonAt_9 : decode cX4_lessonAt 9 = .ok (.getfield 15, 3) := by decide +kernel
theorem dX4_lessonAt_12 : decode cX4_lessonAt 12 = .ok (.iload_n 1, 1) := by decide +kernel
theorem dX4_lessonAt_13 : decode cX4_lessonAt 13 = .ok (.invokestatic 58, 3) := by decide +kernel
theorem dX4_lessonAt_16 : decode cX4_lessonAt 16 = .ok (.goto 4, 3) := by decide +kernel
theorem dX4_lessonAt_19 : decode cX4_lessonAt 19 = .ok (.iconst (-1), 1) := by decide +kernel
theorem dX4_lessonAt_20 : decode cX4_lessonAt 20 = .ok (.ireturn, 1) := by decide +kernel
theorem dX5_init_0 : decode cX5_init 0 = .ok (.aload_n 0, 1) := by decide +kernel
theorem dX5_init_1 : decode cX5_init 1 = .ok (.invokespecial 5, 3) := by decide +kernel
theorem dX5_init_4 : decode cX5_init 4 = .ok (.aload_n 0, 1) := by decide +kernel
theorem dX5_init_5 : decode cX5_init 5 = .ok (.bipush 18, 2) := by decide +kernel
theorem dX5_init_7 : decode cX5_init 7 = .ok (.newarray .int, 2) := by decide +kernel
theorem dX5_init_9 : decode cX5_init 9 = .ok (.putfield 11, 3) := by decide +kernel
theorem dX5_init_12 : decode cX5_init 12 = .ok (.aload_n 0, 1) := by decide +kernel
theorem dX5_init_13 : decode cX5_init 13 = .ok (.iconst 0, 1) := by decide +kernel
theorem dX5_init_14 : decode cX5_init 14 = .ok (.putfield 15, 3) := by decide +kernel
theorem dX5_init_17 : decode cX5_init 17 = .ok (.return_, 1) := by decide +kernel
theorem dX5_add_0 : decode cX5_add 0 = .ok (.aload_n 0, 1) := by decide +kernel
theorem dX5_add_1 : decode cX5_add 1 = .ok (.getfield 11, 3) := by decide +kernel
theorem dX5_add_4 : decode cX5_add 4 = .ok (.aload_n 0, 1) := by decide +kernel
theorem dX5_add_5 : decode cX5_add 5 = .ok (.getfield 15, 3) := by decide +kernel
theorem dX5_add_8 : decode cX5_add 8 = .ok (.iload_n 1, 1) := by decide +kernel
theorem dX5_add_9 : decode cX5_add 9 = .ok (.invokestatic 19, 3) := by decide +kernel
theorem dX5_add_12 : decode cX5_add 12 = .ok (.aload_n 0, 1) := by decide +kernel
theorem dX5_add_13 : decode cX5_add 13 = .ok (.dup, 1) := by decide +kernel
theorem dX5_add_14 : decode cX5_add 14 = .ok (.getfield 15, 3) := by decide +kernel
theorem dX5_add_17 : decode cX5_add 17 = .ok (.iconst 1, 1) := by decide +kernel
theorem dX5_add_18 : decode cX5_add 18 = .ok (.iadd, 1) := by decide +kernel
theorem dX5_add_19 : decode cX5_add 19 = .ok (.putfield 15, 3) := by decide +kernel
theorem dX5_add_22 : decode cX5_add 22 = .ok (.return_, 1) := by decide +kernel
theorem dX5_codeAt_0 : decode cX5_codeAt 0 = .ok (.aload_n 0, 1) := by decide +kernel
theorem dX5_codeAt_1 : decode cX5_codeAt 1 = .ok (.getfield 11, 3) := by decide +kernel
theorem dX5_codeAt_4 : decode cX5_codeAt 4 = .ok (.iload_n 1, 1) := by decide +kernel
theorem dX5_codeAt_5 : decode cX5_codeAt 5 = .ok (.invokestatic 23, 3) := by decide +kernel
theorem dX5_codeAt_8 : decode cX5_codeAt 8 = .ok (.ireturn, 1) := by decide +kernel
theorem dX5_digitAt_0 : decode cX5_digitAt 0 = .ok (.aload_n 0, 1) := by decide +kernel
theorem dX5_digitAt_1 : decode cX5_digitAt 1 = .ok (.getfield 11, 3) := by decide +kernel
theorem dX5_digitAt_4 : decode cX5_digitAt 4 = .ok (.iload_n 1, 1) := by decide +kernel
theorem dX5_digitAt_5 : decode cX5_digitAt 5 = .ok (.invokestatic 23, 3) := by decide +kernel
theorem dX5_digitAt_8 : decode cX5_digitAt 8 = .ok (.bipush 48, 2) := by decide +kernel
theorem dX5_digitAt_10 : decode cX5_digitAt 10 = .ok (.isub, 1) := by decide +kernel
theorem dX5_digitAt_11 : decode cX5_digitAt 11 = .ok (.ireturn, 1) := by decide +kernel
theorem dX5_firstFault_0 : decode cX5_firstFault 0 = .ok (.aload_n 0, 1) := by decide +kernel
theorem dX5_firstFault_1 : decode cX5_firstFault 1 = .ok (.getfield 15, 3) := by decide +kernel
theorem dX5_firstFault_4 : decode cX5_firstFault 4 = .ok (.istore_n 1, 1) := by decide +kernel
theorem dX5_firstFault_5 : decode cX5_firstFault 5 = .ok (.iconst 0, 1) := by decide +kernel
theorem dX5_firstFault_6 : decode cX5_firstFault 6 = .ok (.istore_n 2, 1) := by decide +kernel
theorem dX5_firstFault_7 : decode cX5_firstFault 7 = .ok (.iload_n 2, 1) := by decide +kernel
theorem dX5_firstFault_8 : decode cX5_firstFault 8 = .ok (.aload_n 0, 1) := by decide +kernel
theorem dX5_firstFault_9 : decode cX5_firstFault 9 = .ok (.getfield 15, 3) := by decide +kernel
theorem dX5_firstFault_12 : decode cX5_firstFault 12 = .ok (.if_icmp .ge 47, 3) := by decide +kernel
theorem dX5_firstFault_15 : decode cX5_firstFault 15 = .ok (.iload_n 2, 1) := by decide +kernel
theorem dX5_firstFault_16 : decode cX5_firstFault 16 = .ok (.iload_n 1, 1) := by decide +kernel
theorem dX5_firstFault_17 : decode cX5_firstFault 17 = .ok (.if_icmp .le 12, 3) := by decide +kernel
theorem dX5_firstFault_20 : decode cX5_firstFault 20 = .ok (.aload_n 0, 1) := by decide +kernel
theorem dX5_firstFault_21 : decode cX5_firstFault 21 = .ok (.iload_n 2, 1) := by decide +kernel
theorem dX5_firstFault_22 : decode cX5_firstFault 22 = .ok (.iload_n 1, 1) := by decide +kernel
theorem dX5_firstFault_23 : decode cX5_firstFault 23 = .ok (.invokevirtual 27, 3) := by decide +kernel
theorem dX5_firstFault_26 : decode cX5_firstFault 26 = .ok (.goto 8, 3) := by decide +kernel
theorem dX5_firstFault_29 : decode cX5_firstFault 29 = .ok (.aload_n 0, 1) := by decide +kernel
theorem dX5_firstFault_30 : decode cX5_firstFault 30 = .ok (.iload_n 2, 1) := by decide +kernel
theorem dX5_firstFault_31 : decode cX5_firstFault 31 = .ok (.invokevirtual 31, 3) := by decide +kernel
theorem dX5_firstFault_34 : decode cX5_firstFault 34 = .ok (.istore_n 3, 1) := by decide +kernel
theorem dX5_firstFault_35 : decode cX5_firstFault 35 = .ok (.iload_n 3, 1) := by decide +kernel
theorem dX5_firstFault_36 : decode cX5_firstFault 36 = .ok (.ifCond .ne 5, 3) := by decide +kernel
theorem dX5_firstFault_39 : decode cX5_firstFault 39 = .ok (.iload_n 2, 1) := by decide +kernel
theorem dX5_firstFault_40 : decode cX5_firstFault 40 = .ok (.ireturn, 1) := by decide +kernel
theorem dX5_firstFault_41 : decode cX5_firstFault 41 = .ok (.aload_n 0, 1) := by decide +kernel
theorem dX5_firstFault_42 : decode cX5_firstFault 42 = .ok (.iload_n 2, 1) := by decide +kernel
theorem dX5_firstFault_43 : decode cX5_firstFault 43 = .ok (.invokevirtual 35, 3) := by decide +kernel
theorem dX5_firstFault_46 : decode cX5_firstFault 46 = .ok (.bipush 59, 2) := by decide +kernel
theorem dX5_firstFault_48 : decode cX5_firstFault 48 = .ok (.if_icmp .ne 5, 3) := by decide +kernel
theorem dX5_firstFault_51 : decode cX5_firstFault 51 = .ok (.iload_n 2, 1) := by decide +kernel
theorem dX5_firstFault_52 : decode cX5_firstFault 52 = .ok (.istore_n 1, 1) := by decide +kernel
theorem dX5_firstFault_53 : decode cX5_firstFault 53 = .ok (.iinc 2 1, 3) := by decide +kernel
theorem dX5_firstFault_56 : decode cX5_firstFault 56 = .ok (.goto (-49), 3) := by decide +kernel
theorem dX5_firstFault_59 : decode cX5_firstFault 59 = .ok (.aload_n 0, 1) := by decide +kernel
theorem dX5_firstFault_60 : decode cX5_firstFault 60 = .ok (.getfield 15, 3) := by decide +kernel
theorem dX5_firstFault_63 : decode cX5_firstFault 63 = .ok (.ireturn, 1) := by decide +kernel
theorem dX5_isLimit_0 : decode cX5_isLimit 0 = .ok (.iload_n 1, 1) := by decide +kernel
theorem dX5_isLimit_1 : decode cX5_isLimit 1 = .ok (.iload_n 2, 1) := by decide +kernel
theorem dX5_isLimit_2 : decode cX5_isLimit 2 = .ok (.iconst 1, 1) := by decide +kernel
theorem dX5_isLimit_3 : decode cX5_isLimit 3 = .ok (.iadd, 1) := by decide +kernel
theorem dX5_isLimit_4 : decode cX5_isLimit 4 = .ok (.if_icmp .ne 18, 3) := by decide +kernel
theorem dX5_isLimit_7 : decode cX5_isLimit 7 = .ok (.aload_n 0, 1) := by decide +kernel
theorem dX5_isLimit_8 : decode cX5_isLimit 8 = .ok (.iload_n 1, 1) := by decide +kernel
theorem dX5_isLimit_9 : decode cX5_isLimit 9 = .ok (.iconst 0, 1) := by decide +kernel
theorem dX5_isLimit_10 : decode cX5_isLimit 10 = .ok (.bipush 9, 2) := by decide +kernel
theorem dX5_isLimit_12 : decode cX5_isLimit 12 = .ok (.invokevirtual 39, 3) := by decide +kernel
theorem dX5_isLimit_15 : decode cX5_isLimit 15 = .ok (.ifCond .eq 7, 3) := by decide +kernel
theorem dX5_isLimit_18 : decode cX5_isLimit 18 = .ok (.iconst 1, 1) := by decide +kernel
theorem dX5_isLimit_19 : decode cX5_isLimit 19 = .ok (.goto 4, 3) := by decide +kernel
theorem dX5_isLimit_22 : decode cX5_isLimit 22 = .ok (.iconst 0, 1) := by decide +kernel
theorem dX5_isLimit_23 : decode cX5_isLimit 23 = .ok (.ireturn, 1) := by decide +kernel
theorem dX5_isOfLesson_0 : decode cX5_isOfLesson 0 = .ok (.iload_n 1, 1) := by decide +kernel
theorem dX5_isOfLesson_1 : decode cX5_isOfLesson 1 = .ok (.iconst 3, 1) := by decide +kernel
theorem dX5_isOfLesson_2 : decode cX5_isOfLesson 2 = .ok (.irem, 1) := by decide +kernel
theorem dX5_isOfLesson_3 : decode cX5_isOfLesson 3 = .ok (.lookupswitch 42 #[(0, 25), (1, 34)], 25) := by decide +kernel
theorem dX5_isOfLesson_28 : decode cX5_isOfLesson 28 = .ok (.aload_n 0, 1) := by decide +kernel
theorem dX5_isOfLesson_29 : decode cX5_isOfLesson 29 = .ok (.iload_n 1, 1) := by decide +kernel
theorem dX5_isOfLesson_30 : decode cX5_isOfLesson 30 = .ok (.iconst 1, 1) := by decide +kernel
theorem dX5_isOfLesson_31 : decode cX5_isOfLesson 31 = .ok (.bipush 9, 2) := by decide +kernel
theorem dX5_isOfLesson_33 : decode cX5_isOfLesson 33 = .ok (.invokevirtual 39, 3) := by decide +kernel
theorem dX5_isOfLesson_36 : decode cX5_isOfLesson 36 = .ok (.ireturn, 1) := by decide +kernel
theorem dX5_isOfLesson_37 : decode cX5_isOfLesson 37 = .ok (.aload_n 0, 1) := by decide +kernel
theorem dX5_isOfLesson_38 : decode cX5_isOfLesson 38 = .ok (.iload_n 1, 1) := by decide +kernel
theorem dX5_isOfLesson_39 : decode cX5_isOfLesson 39 = .ok (.iconst 1, 1) := by decide +kernel
theorem dX5_isOfLesson_40 : decode cX5_isOfLesson 40 = .ok (.iconst 5, 1) := by decide +kernel
theorem dX5_isOfLesson_41 : decode cX5_isOfLesson 41 = .ok (.invokevirtual 39, 3) := by decide +kernel
theorem dX5_isOfLesson_44 : decode cX5_isOfLesson 44 = .ok (.ireturn, 1) := by decide +kernel
theorem dX5_isOfLesson_45 : decode cX5_isOfLesson 45 = .ok (.aload_n 0, 1) := by decide +kernel
theorem dX5_isOfLesson_46 : decode cX5_isOfLesson 46 = .ok (.iload_n 1, 1) := by decide +kernel
theorem dX5_isOfLesson_47 : decode cX5_isOfLesson 47 = .ok (.invokevirtual 35, 3) := by decide +kernel
theorem dX5_isOfLesson_50 : decode cX5_isOfLesson 50 = .ok (.bipush 59, 2) := by decide +kernel
theorem dX5_isOfLesson_52 : decode cX5_isOfLesson 52 = .ok (.if_icmp .eq 19, 3) := by decide +kernel
theorem dX5_isOfLesson_55 : decode cX5_isOfLesson 55 = .ok (.aload_n 0, 1) := by decide +kernel
theorem dX5_isOfLesson_56 : decode cX5_isOfLesson 56 = .ok (.iload_n 1, 1) := by decide +kernel
theorem dX5_isOfLesson_57 : decode cX5_isOfLesson 57 = .ok (.invokevirtual 35, 3) := by decide +kernel
theorem dX5_isOfLesson_60 : decode cX5_isOfLesson 60 = .ok (.bipush 44, 2) := by decide +kernel
theorem dX5_isOfLesson_62 : decode cX5_isOfLesson 62 = .ok (.if_icmp .ne 13, 3) := by decide +kernel
theorem dX5_isOfLesson_65 : decode cX5_isOfLesson 65 = .ok (.iload_n 1, 1) := by decide +kernel
theorem dX5_isOfLesson_66 : decode cX5_isOfLesson 66 = .ok (.bipush 14, 2) := by decide +kernel
theorem dX5_isOfLesson_68 : decode cX5_isOfLesson 68 = .ok (.if_icmp .ge 7, 3) := by decide +kernel
theorem dX5_isOfLesson_71 : decode cX5_isOfLesson 71 = .ok (.iconst 1, 1) := by decide +kernel
theorem dX5_isOfLesson_72 : decode cX5_isOfLesson 72 = .ok (.goto 4, 3) := by decide +kernel
theorem dX5_isOfLesson_75 : decode cX5_isOfLesson 75 = .ok (.iconst 0, 1) := by decide +kernel
theorem dX5_isOfLesson_76 : decode cX5_isOfLesson 76 = .ok (.ireturn, 1) := by decide +kernel
theorem dX5_isDigit_0 : decode cX5_isDigit 0 = .ok (.aload_n 0, 1) := by decide +kernel
theorem dX5_isDigit_1 : decode cX5_isDigit 1 = .ok (.iload_n 1, 1) := by decide +kernel
theorem dX5_isDigit_2 : decode cX5_isDigit 2 = .ok (.invokevirtual 43, 3) := by decide +kernel
theorem dX5_isDigit_5 : decode cX5_isDigit 5 = .ok (.iload_n 2, 1) := by decide +kernel
theorem dX5_isDigit_6 : decode cX5_isDigit 6 = .ok (.if_icmp .lt 16, 3) := by decide +kernel
theorem dX5_isDigit_9 : decode cX5_isDigit 9 = .ok (.aload_n 0, 1) := by decide +kernel
theorem dX5_isDigit_10 : decode cX5_isDigit 10 = .ok (.iload_n 1, 1) := by decide +kernel
theorem dX5_isDigit_11 : decode cX5_isDigit 11 = .ok (.invokevirtual 43, 3) := by decide +kernel
theorem dX5_isDigit_14 : decode cX5_isDigit 14 = .ok (.iload_n 3, 1) := by decide +kernel
theorem dX5_isDigit_15 : decode cX5_isDigit 15 = .ok (.if_icmp .gt 7, 3) := by decide +kernel
theorem dX5_isDigit_18 : decode cX5_isDigit 18 = .ok (.iconst 1, 1) := by decide +kernel
theorem dX5_isDigit_19 : decode cX5_isDigit 19 = .ok (.goto 4, 3) := by decide +kernel
theorem dX5_isDigit_22 : decode cX5_isDigit 22 = .ok (.iconst 0, 1) := by decide +kernel
theorem dX5_isDigit_23 : decode cX5_isDigit 23 = .ok (.ireturn, 1) := by decide +kernel
theorem dX5_isWhole_0 : decode cX5_isWhole 0 = .ok (.aload_n 0, 1) := by decide +kernel
theorem dX5_isWhole_1 : decode cX5_isWhole 1 = .ok (.invokevirtual 46, 3) := by decide +kernel
theorem dX5_isWhole_4 : decode cX5_isWhole 4 = .ok (.aload_n 0, 1) := by decide +kernel
theorem dX5_isWhole_5 : decode cX5_isWhole 5 = .ok (.getfield 15, 3) := by decide +kernel
theorem dX5_isWhole_8 : decode cX5_isWhole 8 = .ok (.if_icmp .ne 22, 3) := by decide +kernel
theorem dX5_isWhole_11 : decode cX5_isWhole 11 = .ok (.aload_n 0, 1) := by decide +kernel
theorem dX5_isWhole_12 : decode cX5_isWhole 12 = .ok (.aload_n 0, 1) := by decide +kernel
theorem dX5_isWhole_13 : decode cX5_isWhole 13 = .ok (.getfield 15, 3) := by decide +kernel
theorem dX5_isWhole_16 : decode cX5_isWhole 16 = .ok (.iconst 2, 1) := by decide +kernel
theorem dX5_isWhole_17 : decode cX5_isWhole 17 = .ok (.isub, 1) := by decide +kernel
theorem dX5_isWhole_18 : decode cX5_isWhole 18 = .ok (.invokevirtual 35, 3) := by decide +kernel
theorem dX5_isWhole_21 : decode cX5_isWhole 21 = .ok (.bipush 59, 2) := by decide +kernel
theorem dX5_isWhole_23 : decode cX5_isWhole 23 = .ok (.if_icmp .ne 7, 3) := by decide +kernel
theorem dX5_isWhole_26 : decode cX5_isWhole 26 = .ok (.iconst 1, 1) := by decide +kernel
theorem dX5_isWhole_27 : decode cX5_isWhole 27 = .ok (.goto 4, 3) := by decide +kernel
theorem dX5_isWhole_30 : decode cX5_isWhole 30 = .ok (.iconst 0, 1) := by decide +kernel
theorem dX5_isWhole_31 : decode cX5_isWhole 31 = .ok (.ireturn, 1) := by decide +kernel
theorem dX6_init_0 : decode cX6_init 0 = .ok (.aload_n 0, 1) := by decide +kernel
theorem dX6_init_1 : decode cX6_init 1 = .ok (.invokespecial 3, 3) := by decide +kernel
theorem dX6_init_4 : decode cX6_init 4 = .ok (.aload_n 0, 1) := by decide +kernel
theorem dX6_init_5 : decode cX6_init 5 = .ok (.iload_n 1, 1) := by decide +kernel
theorem dX6_init_6 : decode cX6_init 6 = .ok (.putfield 9, 3) := by decide +kernel
theorem dX6_init_9 : decode cX6_init 9 = .ok (.return_, 1) := by decide +kernel
theorem dX6_kind_0 : decode cX6_kind 0 = .ok (.iconst 0, 1) := by decide +kernel
theorem dX6_kind_1 : decode cX6_kind 1 = .ok (.ireturn, 1) := by decide +kernel
theorem dX6_feels_0 : decode cX6_feels 0 = .ok (.iload_n 1, 1) := by decide +kernel
theorem dX6_feels_1 : decode cX6_feels 1 = .ok (.ireturn, 1) := by decide +kernel
theorem dX6_isOf_0 : decode cX6_isOf 0 = .ok (.iload_n 1, 1) := by decide +kernel
theorem dX6_isOf_1 : decode cX6_isOf 1 = .ok (.tableswitch 48 0 3 #[31, 33, 38, 43], 31) := by decide +kernel
theorem dX6_isOf_32 : decode cX6_isOf 32 = .ok (.iconst 1, 1) := by decide +kernel
theorem dX6_isOf_33 : decode cX6_isOf 33 = .ok (.ireturn, 1) := by decide +kernel
theorem dX6_isOf_34 : decode cX6_isOf 34 = .ok (.aload_n 0, 1) := by decide +kernel
theorem dX6_isOf_35 : decode cX6_isOf 35 = .ok (.instanceof 15, 3) := by decide +kernel
theorem dX6_isOf_38 : decode cX6_isOf 38 = .ok (.ireturn, 1) := by decide +kernel
theorem dX6_isOf_39 : decode cX6_isOf 39 = .ok (.aload_n 0, 1) := by decide +kernel
theorem dX6_isOf_40 : decode cX6_isOf 40 = .ok (.instanceof 17, 3) := by decide +kernel
theorem dX6_isOf_43 : decode cX6_isOf 43 = .ok (.ireturn, 1) := by decide +kernel
theorem dX6_isOf_44 : decode cX6_isOf 44 = .ok (.aload_n 0, 1) := by decide +kernel
theorem dX6_isOf_45 : decode cX6_isOf 45 = .ok (.instanceof 19, 3) := by decide +kernel
theorem dX6_isOf_48 : decode cX6_isOf 48 = .ok (.ireturn, 1) := by decide +kernel
theorem dX6_isOf_49 : decode cX6_isOf 49 = .ok (.aload_n 0, 1) := by decide +kernel
theorem dX6_isOf_50 : decode cX6_isOf 50 = .ok (.instanceof 21, 3) := by decide +kernel
theorem dX6_isOf_53 : decode cX6_isOf 53 = .ok (.ireturn, 1) := by decide +kernel
theorem dX7_init_0 : decode cX7_init 0 = .ok (.aload_n 0, 1) := by decide +kernel
theorem dX7_init_1 : decode cX7_init 1 = .ok (.iload_n 1, 1) := by decide +kernel
theorem dX7_init_2 : decode cX7_init 2 = .ok (.invokespecial 3, 3) := by decide +kernel
theorem dX7_init_5 : decode cX7_init 5 = .ok (.return_, 1) := by decide +kernel
theorem dX7_kind_0 : decode cX7_kind 0 = .ok (.iconst 1, 1) := by decide +kernel
theorem dX7_kind_1 : decode cX7_kind 1 = .ok (.ireturn, 1) := by decide +kernel
theorem dX7_feels_0 : decode cX7_feels 0 = .ok (.iload_n 1, 1) := by decide +kernel
theorem dX7_feels_1 : decode cX7_feels 1 = .ok (.iconst 5, 1) := by decide +kernel
theorem dX7_feels_2 : decode cX7_feels 2 = .ok (.if_icmp .ge 7, 3) := by decide +kernel
theorem dX7_feels_5 : decode cX7_feels 5 = .ok (.iconst 0, 1) := by decide +kernel
theorem dX7_feels_6 : decode cX7_feels 6 = .ok (.goto 4, 3) := by decide +kernel
theorem dX7_feels_9 : decode cX7_feels 9 = .ok (.iload_n 1, 1) := by decide +kernel
theorem dX7_feels_10 : decode cX7_feels 10 = .ok (.ireturn, 1) := by decide +kernel
theorem dX8_init_0 : decode cX8_init 0 = .ok (.aload_n 0, 1) := by decide +kernel
theorem dX8_init_1 : decode cX8_init 1 = .ok (.invokespecial 3, 3) := by decide +kernel
theorem dX8_init_4 : decode cX8_init 4 = .ok (.aload_n 0, 1) := by decide +kernel
theorem dX8_init_5 : decode cX8_init 5 = .ok (.iconst 0, 1) := by decide +kernel
theorem dX8_init_6 : decode cX8_init 6 = .ok (.putfield 9, 3) := by decide +kernel
theorem dX8_init_9 : decode cX8_init 9 = .ok (.aload_n 0, 1) := by decide +kernel
theorem dX8_init_10 : decode cX8_init 10 = .ok (.bipush 9, 2) := by decide +kernel
theorem dX8_init_12 : decode cX8_init 12 = .ok (.newarray .int, 2) := by decide +kernel
theorem dX8_init_14 : decode cX8_init 14 = .ok (.putfield 15, 3) := by decide +kernel
theorem dX8_init_17 : decode cX8_init 17 = .ok (.aload_n 0, 1) := by decide +kernel
theorem dX8_init_18 : decode cX8_init 18 = .ok (.iconst 3, 1) := by decide +kernel
theorem dX8_init_19 : decode cX8_init 19 = .ok (.newarray .int, 2) := by decide +kernel
theorem dX8_init_21 : decode cX8_init 21 = .ok (.putfield 19, 3) := by decide +kernel
theorem dX8_init_24 : decode cX8_init 24 = .ok (.aload_n 0, 1) := by decide +kernel
theorem dX8_init_25 : decode cX8_init 25 = .ok (.iconst 3, 1) := by decide +kernel
theorem dX8_init_26 : decode cX8_init 26 = .ok (.newarray .int, 2) := by decide +kernel
theorem dX8_init_28 : decode cX8_init 28 = .ok (.putfield 22, 3) := by decide +kernel
theorem dX8_init_31 : decode cX8_init 31 = .ok (.aload_n 0, 1) := by decide +kernel
theorem dX8_init_32 : decode cX8_init 32 = .ok (.iconst 3, 1) := by decide +kernel
theorem dX8_init_33 : decode cX8_init 33 = .ok (.newarray .int, 2) := by decide +kernel
theorem dX8_init_35 : decode cX8_init 35 = .ok (.putfield 25, 3) := by decide +kernel
theorem dX8_init_38 : decode cX8_init 38 = .ok (.aload_n 0, 1) := by decide +kernel
theorem dX8_init_39 : decode cX8_init 39 = .ok (.iconst 0, 1) := by decide +kernel
theorem dX8_init_40 : decode cX8_init 40 = .ok (.putfield 28, 3) := by decide +kernel
theorem dX8_init_43 : decode cX8_init 43 = .ok (.aload_n 0, 1) := by decide +kernel
theorem dX8_init_44 : decode cX8_init 44 = .ok (.bipush 6, 2) := by decide +kernel
theorem dX8_init_46 : decode cX8_init 46 = .ok (.newarray .int, 2) := by decide +kernel
theorem dX8_init_48 : decode cX8_init 48 = .ok (.putfield 31, 3) := by decide +kernel
theorem dX8_init_51 : decode cX8_init 51 = .ok (.aload_n 0, 1) := by decide +kernel
theorem dX8_init_52 : decode cX8_init 52 = .ok (.bipush 6, 2) := by decide +kernel
theorem dX8_init_54 : decode cX8_init 54 = .ok (.newarray .int, 2) := by decide +kernel
theorem dX8_init_56 : decode cX8_init 56 = .ok (.putfield 34, 3) := by decide +kernel
theorem dX8_init_59 : decode cX8_init 59 = .ok (.aload_n 0, 1) := by decide +kernel
theorem dX8_init_60 : decode cX8_init 60 = .ok (.bipush 6, 2) := by decide +kernel
theorem dX8_init_62 : decode cX8_init 62 = .ok (.newarray .int, 2) := by decide +kernel
theorem dX8_init_64 : decode cX8_init 64 = .ok (.putfield 37, 3) := by decide +kernel
theorem dX8_init_67 : decode cX8_init 67 = .ok (.return_, 1) := by decide +kernel
theorem dX8_clear_0 : decode cX8_clear 0 = .ok (.aload_n 0, 1) := by decide +kernel
theorem dX8_clear_1 : decode cX8_clear 1 = .ok (.iconst 0, 1) := by decide +kernel
theorem dX8_clear_2 : decode cX8_clear 2 = .ok (.putfield 9, 3) := by decide +kernel
theorem dX8_clear_5 : decode cX8_clear 5 = .ok (.aload_n 0, 1) := by decide +kernel
theorem dX8_clear_6 : decode cX8_clear 6 = .ok (.iconst 0, 1) := by decide +kernel
theorem dX8_clear_7 : decode cX8_clear 7 = .ok (.putfield 28, 3) := by decide +kernel
theorem dX8_clear_10 : decode cX8_clear 10 = .ok (.aload_n 0, 1) := by decide +kernel
theorem dX8_clear_11 : decode cX8_clear 11 = .ok (.getfield 25, 3) := by decide +kernel
theorem dX8_clear_14 : decode cX8_clear 14 = .ok (.iconst 0, 1) := by decide +kernel
theorem dX8_clear_15 : decode cX8_clear 15 = .ok (.invokestatic 40, 3) := by decide +kernel
theorem dX8_clear_18 : decode cX8_clear 18 = .ok (.return_, 1) := by decide +kernel
theorem dX8_copyFrom_0 : decode cX8_copyFrom 0 = .ok (.aload_n 0, 1) := by decide +kernel
theorem dX8_copyFrom_1 : decode cX8_copyFrom 1 = .ok (.aload_n 1, 1) := by decide +kernel
theorem dX8_copyFrom_2 : decode cX8_copyFrom 2 = .ok (.getfield 9, 3) := by decide +kernel
theorem dX8_copyFrom_5 : decode cX8_copyFrom 5 = .ok (.putfield 9, 3) := by decide +kernel
theorem dX8_copyFrom_8 : decode cX8_copyFrom 8 = .ok (.aload_n 1, 1) := by decide +kernel
theorem dX8_copyFrom_9 : decode cX8_copyFrom 9 = .ok (.getfield 15, 3) := by decide +kernel
theorem dX8_copyFrom_12 : decode cX8_copyFrom 12 = .ok (.aload_n 0, 1) := by decide +kernel
theorem dX8_copyFrom_13 : decode cX8_copyFrom 13 = .ok (.getfield 15, 3) := by decide +kernel
theorem dX8_copyFrom_16 : decode cX8_copyFrom 16 = .ok (.invokestatic 44, 3) := by decide +kernel
theorem dX8_copyFrom_19 : decode cX8_copyFrom 19 = .ok (.aload_n 1, 1) := by decide +kernel
theorem dX8_copyFrom_20 : decode cX8_copyFrom 20 = .ok (.getfield 19, 3) := by decide +kernel
theorem dX8_copyFrom_23 : decode cX8_copyFrom 23 = .ok (.aload_n 0, 1) := by decide +kernel
theorem dX8_copyFrom_24 : decode cX8_copyFrom 24 = .ok (.getfield 19, 3) := by decide +kernel
theorem dX8_copyFrom_27 : decode cX8_copyFrom 27 = .ok (.invokestatic 44, 3) := by decide +kernel
theorem dX8_copyFrom_30 : decode cX8_copyFrom 30 = .ok (.aload_n 1, 1) := by decide +kernel
theorem dX8_copyFrom_31 : decode cX8_copyFrom 31 = .ok (.getfield 22, 3) := by decide +kernel
theorem dX8_copyFrom_34 : decode cX8_copyFrom 34 = .ok (.aload_n 0, 1) := by decide +kernel
theorem dX8_copyFrom_35 : decode cX8_copyFrom 35 = .ok (.getfield 22, 3) := by decide +kernel
theorem dX8_copyFrom_38 : decode cX8_copyFrom 38 = .ok (.invokestatic 44, 3) := by decide +kernel
theorem dX8_copyFrom_41 : decode cX8_copyFrom 41 = .ok (.aload_n 1, 1) := by decide +kernel
theorem dX8_copyFrom_42 : decode cX8_copyFrom 42 = .ok (.getfield 25, 3) := by decide +kernel
theorem dX8_copyFrom_45 : decode cX8_copyFrom 45 = .ok (.aload_n 0, 1) := by decide +kernel
theorem dX8_copyFrom_46 : decode cX8_copyFrom 46 = .ok (.getfield 25, 3) := by decide +kernel
theorem dX8_copyFrom_49 : decode cX8_copyFrom 49 = .ok (.invokestatic 44, 3) := by decide +kernel
theorem dX8_copyFrom_52 : decode cX8_copyFrom 52 = .ok (.aload_n 0, 1) := by decide +kernel
theorem dX8_copyFrom_53 : decode cX8_copyFrom 53 = .ok (.aload_n 1, 1) := by decide +kernel
theorem dX8_copyFrom_54 : decode cX8_copyFrom 54 = .ok (.getfield 28, 3) := by decide +kernel
theorem dX8_copyFrom_57 : decode cX8_copyFrom 57 = .ok (.putfield 28, 3) := by decide +kernel
theorem dX8_copyFrom_60 : decode cX8_copyFrom 60 = .ok (.aload_n 1, 1) := by decide +kernel
theorem dX8_copyFrom_61 : decode cX8_copyFrom 61 = .ok (.getfield 31, 3) := by decide +kernel
theorem dX8_copyFrom_64 : decode cX8_copyFrom 64 = .ok (.aload_n 0, 1) := by decide +kernel
theorem dX8_copyFrom_65 : decode cX8_copyFrom 65 = .ok (.getfield 31, 3) := by decide +kernel
theorem dX8_copyFrom_68 : decode cX8_copyFrom 68 = .ok (.invokestatic 44, 3) := by decide +kernel
theorem dX8_copyFrom_71 : decode cX8_copyFrom 71 = .ok (.aload_n 1, 1) := by decide +kernel
theorem dX8_copyFrom_72 : decode cX8_copyFrom 72 = .ok (.getfield 34, 3) := by decide +kernel
theorem dX8_copyFrom_75 : decode cX8_copyFrom 75 = .ok (.aload_n 0, 1) := by decide +kernel
theorem dX8_copyFrom_76 : decode cX8_copyFrom 76 = .ok (.getfield 34, 3) := by decide +kernel
theorem dX8_copyFrom_79 : decode cX8_copyFrom 79 = .ok (.invokestatic 44, 3) := by decide +kernel
theorem dX8_copyFrom_82 : decode cX8_copyFrom 82 = .ok (.aload_n 1, 1) := by decide +kernel
theorem dX8_copyFrom_83 : decode cX8_copyFrom 83 = .ok (.getfield 37, 3) := by decide +kernel
theorem dX8_copyFrom_86 : decode cX8_copyFrom 86 = .ok (.aload_n 0, 1) := by decide +kernel
theorem dX8_copyFrom_87 : decode cX8_copyFrom 87 = .ok (.getfield 37, 3) := by decide +kernel
theorem dX8_copyFrom_90 : decode cX8_copyFrom 90 = .ok (.invokestatic 44, 3) := by decide +kernel
theorem dX8_copyFrom_93 : decode cX8_copyFrom 93 = .ok (.return_, 1) := by decide +kernel
theorem dX8_addPrince_0 : decode cX8_addPrince 0 = .ok (.iconst 0, 1) := by decide +kernel
theorem dX8_addPrince_1 : decode cX8_addPrince 1 = .ok (.istore_n 1, 1) := by decide +kernel
theorem dX8_addPrince_2 : decode cX8_addPrince 2 = .ok (.iload_n 1, 1) := by decide +kernel
theorem dX8_addPrince_3 : decode cX8_addPrince 3 = .ok (.iconst 3, 1) := by decide +kernel
theorem dX8_addPrince_4 : decode cX8_addPrince 4 = .ok (.if_icmp .ge 19, 3) := by decide +kernel
theorem dX8_addPrince_7 : decode cX8_addPrince 7 = .ok (.aload_n 0, 1) := by decide +kernel
theorem dX8_addPrince_8 : decode cX8_addPrince 8 = .ok (.aload_n 0, 1) := by decide +kernel
theorem dX8_addPrince_9 : decode cX8_addPrince 9 = .ok (.getfield 9, 3) := by decide +kernel
theorem dX8_addPrince_12 : decode cX8_addPrince 12 = .ok (.iload_n 1, 1) := by decide +kernel
theorem dX8_addPrince_13 : decode cX8_addPrince 13 = .ok (.iconst 5, 1) := by decide +kernel
theorem dX8_addPrince_14 : decode cX8_addPrince 14 = .ok (.invokevirtual 48, 3) := by decide +kernel
theorem dX8_addPrince_17 : decode cX8_addPrince 17 = .ok (.iinc 1 1, 3) := by decide +kernel
theorem dX8_addPrince_20 : decode cX8_addPrince 20 = .ok (.goto (-18), 3) := by decide +kernel
theorem dX8_addPrince_23 : decode cX8_addPrince 23 = .ok (.aload_n 0, 1) := by decide +kernel
theorem dX8_addPrince_24 : decode cX8_addPrince 24 = .ok (.aload_n 0, 1) := by decide +kernel
theorem dX8_addPrince_25 : decode cX8_addPrince 25 = .ok (.getfield 9, 3) := by decide +kernel
theorem dX8_addPrince_28 : decode cX8_addPrince 28 = .ok (.aload_n 0, 1) := by decide +kernel
theorem dX8_addPrince_29 : decode cX8_addPrince 29 = .ok (.getfield 9, 3) := by decide +kernel
theorem dX8_addPrince_32 : decode cX8_addPrince 32 = .ok (.invokevirtual 52, 3) := by decide +kernel
theorem dX8_addPrince_35 : decode cX8_addPrince 35 = .ok (.aload_n 0, 1) := by decide +kernel
theorem dX8_addPrince_36 : decode cX8_addPrince 36 = .ok (.getfield 22, 3) := by decide +kernel
theorem dX8_addPrince_39 : decode cX8_addPrince 39 = .ok (.aload_n 0, 1) := by decide +kernel
theorem dX8_addPrince_40 : decode cX8_addPrince 40 = .ok (.getfield 9, 3) := by decide +kernel
theorem dX8_addPrince_43 : decode cX8_addPrince 43 = .ok (.iconst 0, 1) := by decide +kernel
theorem dX8_addPrince_44 : decode cX8_addPrince 44 = .ok (.invokestatic 56, 3) := by decide +kernel
theorem dX8_addPrince_47 : decode cX8_addPrince 47 = .ok (.aload_n 0, 1) := by decide +kernel
theorem dX8_addPrince_48 : decode cX8_addPrince 48 = .ok (.dup, 1) := by decide +kernel
theorem dX8_addPrince_49 : decode cX8_addPrince 49 = .ok (.getfield 9, 3) := by decide +kernel
theorem dX8_addPrince_52 : decode cX8_addPrince 52 = .ok (.iconst 1, 1) := by decide +kernel
theorem dX8_addPrince_53 : decode cX8_addPrince 53 = .ok (.iadd, 1) := by decide +kernel
theorem dX8_addPrince_54 : decode cX8_addPrince 54 = .ok (.putfield 9, 3) := by decide +kernel
theorem dX8_addPrince_57 : decode cX8_addPrince 57 = .ok (.return_, 1) := by decide +kernel
theorem dX8_addHeard_0 : decode cX8_addHeard 0 = .ok (.aload_n 0, 1) := by decide +kernel
theorem dX8_addHeard_1 : decode cX8_addHeard 1 = .ok (.getfield 31, 3) := by decide +kernel
theorem dX8_addHeard_4 : decode cX8_addHeard 4 = .ok (.aload_n 0, 1) := by decide +kernel
theorem dX8_addHeard_5 : decode cX8_addHeard 5 = .ok (.getfield 28, 3) := by decide +kernel
theorem dX8_addHeard_8 : decode cX8_addHeard 8 = .ok (.iload_n 1, 1) := by decide +kernel
theorem dX8_addHeard_9 : decode cX8_addHeard 9 = .ok (.invokestatic 56, 3) := by decide +kernel
theorem dX8_addHeard_12 : decode cX8_addHeard 12 = .ok (.aload_n 0, 1) := by decide +kernel
theorem dX8_addHeard_13 : decode cX8_addHeard 13 = .ok (.getfield 34, 3) := by decide +kernel
theorem dX8_addHeard_16 : decode cX8_addHeard 16 = .ok (.aload_n 0, 1) := by decide +kernel
theorem dX8_addHeard_17 : decode cX8_addHeard 17 = .ok (.getfield 28, 3) := by decide +kernel
theorem dX8_addHeard_20 : decode cX8_addHeard 20 = .ok (.iload_n 2, 1) := by decide +kernel
theorem dX8_addHeard_21 : decode cX8_addHeard 21 = .ok (.invokestatic 56, 3) := by decide +kernel
theorem dX8_addHeard_24 : decode cX8_addHeard 24 = .ok (.aload_n 0, 1) := by decide +kernel
theorem dX8_addHeard_25 : decode cX8_addHeard 25 = .ok (.getfield 37, 3) := by decide +kernel
theorem dX8_addHeard_28 : decode cX8_addHeard 28 = .ok (.aload_n 0, 1) := by decide +kernel
theorem dX8_addHeard_29 : decode cX8_addHeard 29 = .ok (.getfield 28, 3) := by decide +kernel
theorem dX8_addHeard_32 : decode cX8_addHeard 32 = .ok (.iload_n 3, 1) := by decide +kernel
theorem dX8_addHeard_33 : decode cX8_addHeard 33 = .ok (.ifCond .eq 7, 3) := by decide +kernel
theorem dX8_addHeard_36 : decode cX8_addHeard 36 = .ok (.iconst 1, 1) := by decide +kernel
theorem dX8_addHeard_37 : decode cX8_addHeard 37 = .ok (.goto 4, 3) := by decide +kernel
theorem dX8_addHeard_40 : decode cX8_addHeard 40 = .ok (.iconst 0, 1) := by decide +kernel
theorem dX8_addHeard_41 : decode cX8_addHeard 41 = .ok (.invokestatic 56, 3) := by decide +kernel
theorem dX8_addHeard_44 : decode cX8_addHeard 44 = .ok (.aload_n 0, 1) := by decide +kernel
theorem dX8_addHeard_45 : decode cX8_addHeard 45 = .ok (.dup, 1) := by decide +kernel
theorem dX8_addHeard_46 : decode cX8_addHeard 46 = .ok (.getfield 28, 3) := by decide +kernel
theorem dX8_addHeard_49 : decode cX8_addHeard 49 = .ok (.iconst 1, 1) := by decide +kernel
theorem dX8_addHeard_50 : decode cX8_addHeard 50 = .ok (.iadd, 1) := by decide +kernel
theorem dX8_addHeard_51 : decode cX8_addHeard 51 = .ok (.putfield 28, 3) := by decide +kernel
theorem dX8_addHeard_54 : decode cX8_addHeard 54 = .ok (.return_, 1) := by decide +kernel
theorem dX8_fondOf_0 : decode cX8_fondOf 0 = .ok (.aload_n 0, 1) := by decide +kernel
theorem dX8_fondOf_1 : decode cX8_fondOf 1 = .ok (.getfield 15, 3) := by decide +kernel
theorem dX8_fondOf_4 : decode cX8_fondOf 4 = .ok (.iload_n 1, 1) := by decide +kernel
theorem dX8_fondOf_5 : decode cX8_fondOf 5 = .ok (.iconst 3, 1) := by decide +kernel
theorem dX8_fondOf_6 : decode cX8_fondOf 6 = .ok (.imul, 1) := by decide +kernel
theorem dX8_fondOf_7 : decode cX8_fondOf 7 = .ok (.iload_n 2, 1) := by decide +kernel
theorem dX8_fondOf_8 : decode cX8_fondOf 8 = .ok (.iadd, 1) := by decide +kernel
theorem dX8_fondOf_9 : decode cX8_fondOf 9 = .ok (.invokestatic 60, 3) := by decide +kernel
theorem dX8_fondOf_12 : decode cX8_fondOf 12 = .ok (.ireturn, 1) := by decide +kernel
theorem dX8_setFond_0 : decode cX8_setFond 0 = .ok (.aload_n 0, 1) := by decide +kernel
theorem dX8_setFond_1 : decode cX8_setFond 1 = .ok (.getfield 15, 3) := by decide +kernel
theorem dX8_setFond_4 : decode cX8_setFond 4 = .ok (.iload_n 1, 1) := by decide +kernel
theorem dX8_setFond_5 : decode cX8_setFond 5 = .ok (.iconst 3, 1) := by decide +kernel
theorem dX8_setFond_6 : decode cX8_setFond 6 = .ok (.imul, 1) := by decide +kernel
theorem dX8_setFond_7 : decode cX8_setFond 7 = .ok (.iload_n 2, 1) := by decide +kernel
theorem dX8_setFond_8 : decode cX8_setFond 8 = .ok (.iadd, 1) := by decide +kernel
theorem dX8_setFond_9 : decode cX8_setFond 9 = .ok (.iload_n 3, 1) := by decide +kernel
theorem dX8_setFond_10 : decode cX8_setFond 10 = .ok (.invokestatic 56, 3) := by decide +kernel
theorem dX8_setFond_13 : decode cX8_setFond 13 = .ok (.return_, 1) := by decide +kernel
theorem dX8_boyOf_0 : decode cX8_boyOf 0 = .ok (.aload_n 0, 1) := by decide +kernel
theorem dX8_boyOf_1 : decode cX8_boyOf 1 = .ok (.getfield 19, 3) := by decide +kernel
theorem dX8_boyOf_4 : decode cX8_boyOf 4 = .ok (.iload_n 1, 1) := by decide +kernel
theorem dX8_boyOf_5 : decode cX8_boyOf 5 = .ok (.invokestatic 60, 3) := by decide +kernel
theorem dX8_boyOf_8 : decode cX8_boyOf 8 = .ok (.ireturn, 1) := by decide +kernel
theorem dX8_setBoy_0 : decode cX8_setBoy 0 = .ok (.aload_n 0, 1) := by decide +kernel
theorem dX8_setBoy_1 : decode cX8_setBoy 1 = .ok (.getfield 19, 3) := by decide +kernel
theorem dX8_setBoy_4 : decode cX8_setBoy 4 = .ok (.iload_n 1, 1) := by decide +kernel
theorem dX8_setBoy_5 : decode cX8_setBoy 5 = .ok (.iload_n 2, 1) := by decide +kernel
theorem dX8_setBoy_6 : decode cX8_setBoy 6 = .ok (.invokestatic 56, 3) := by decide +kernel
theorem dX8_setBoy_9 : decode cX8_setBoy 9 = .ok (.return_, 1) := by decide +kernel
theorem dX8_fondOfHisBoy_0 : decode cX8_fondOfHisBoy 0 = .ok (.aload_n 0, 1) := by decide +kernel
theorem dX8_fondOfHisBoy_1 : decode cX8_fondOfHisBoy 1 = .ok (.iload_n 1, 1) := by decide +kernel
theorem dX8_fondOfHisBoy_2 : decode cX8_fondOfHisBoy 2 = .ok (.aload_n 0, 1) := by decide +kernel
theorem dX8_fondOfHisBoy_3 : decode cX8_fondOfHisBoy 3 = .ok (.iload_n 1, 1) := by decide +kernel
theorem dX8_fondOfHisBoy_4 : decode cX8_fondOfHisBoy 4 = .ok (.invokevirtual 64, 3) := by decide +kernel
theorem dX8_fondOfHisBoy_7 : decode cX8_fondOfHisBoy 7 = .ok (.invokevirtual 68, 3) := by decide +kernel
theorem dX8_fondOfHisBoy_10 : decode cX8_fondOfHisBoy 10 = .ok (.ireturn, 1) := by decide +kernel
theorem dX8_stripesOf_0 : decode cX8_stripesOf 0 = .ok (.aload_n 0, 1) := by decide +kernel
theorem dX8_stripesOf_1 : decode cX8_stripesOf 1 = .ok (.getfield 25, 3) := by decide +kernel
theorem dX8_stripesOf_4 : decode cX8_stripesOf 4 = .ok (.iload_n 1, 1) := by decide +kernel
theorem dX8_stripesOf_5 : decode cX8_stripesOf 5 = .ok (.invokestatic 60, 3) := by decide +kernel
theorem dX8_stripesOf_8 : decode cX8_stripesOf 8 = .ok (.ireturn, 1) := by decide +kernel
theorem dX8_allStripes_0 : decode cX8_allStripes 0 = .ok (.aload_n 0, 1) := by decide +kernel
theorem dX8_allStripes_1 : decode cX8_allStripes 1 = .ok (.getfield 25, 3) := by decide +kernel
theorem dX8_allStripes_4 : decode cX8_allStripes 4 = .ok (.invokestatic 72, 3) := by decide +kernel
theorem dX8_allStripes_7 : decode cX8_allStripes 7 = .ok (.ireturn, 1) := by decide +kernel
theorem dX8_learntBy_0 : decode cX8_learntBy 0 = .ok (.aload_n 0, 1) := by decide +kernel
theorem dX8_learntBy_1 : decode cX8_learntBy 1 = .ok (.getfield 22, 3) := by decide +kernel
theorem dX8_learntBy_4 : decode cX8_learntBy 4 = .ok (.iload_n 1, 1) := by decide +kernel
theorem dX8_learntBy_5 : decode cX8_learntBy 5 = .ok (.invokestatic 60, 3) := by decide +kernel
theorem dX8_learntBy_8 : decode cX8_learntBy 8 = .ok (.ireturn, 1) := by decide +kernel
theorem dX8_whoLearnt_0 : decode cX8_whoLearnt 0 = .ok (.iconst 0, 1) := by decide +kernel
theorem dX8_whoLearnt_1 : decode cX8_whoLearnt 1 = .ok (.istore_n 2, 1) := by decide +kernel
theorem dX8_whoLearnt_2 : decode cX8_whoLearnt 2 = .ok (.iconst 0, 1) := by decide +kernel
theorem dX8_whoLearnt_3 : decode cX8_whoLearnt 3 = .ok (.istore_n 3, 1) := by decide +kernel
theorem dX8_whoLearnt_4 : decode cX8_whoLearnt 4 = .ok (.iload_n 3, 1) := by decide +kernel
theorem dX8_whoLearnt_5 : decode cX8_whoLearnt 5 = .ok (.aload_n 0, 1) := by decide +kernel
theorem dX8_whoLearnt_6 : decode cX8_whoLearnt 6 = .ok (.getfield 9, 3) := by decide +kernel
theorem dX8_whoLearnt_9 : decode cX8_whoLearnt 9 = .ok (.if_icmp .ge 27, 3) := by decide +kernel
theorem dX8_whoLearnt_12 : decode cX8_whoLearnt 12 = .ok (.aload_n 0, 1) := by decide +kernel
theorem dX8_whoLearnt_13 : decode cX8_whoLearnt 13 = .ok (.iload_n 3, 1) := by decide +kernel
theorem dX8_whoLearnt_14 : decode cX8_whoLearnt 14 = .ok (.invokevirtual 76, 3) := by decide +kernel
theorem dX8_whoLearnt_17 : decode cX8_whoLearnt 17 = .ok (.iload_n 1, 1) := by decide +kernel
theorem dX8_whoLearnt_18 : decode cX8_whoLearnt 18 = .ok (.invokestatic 79, 3) := by decide +kernel
theorem dX8_whoLearnt_21 : decode cX8_whoLearnt 21 = .ok (.ifCond .eq 9, 3) := by decide +kernel
theorem dX8_whoLearnt_24 : decode cX8_whoLearnt 24 = .ok (.iload_n 2, 1) := by decide +kernel
theorem dX8_whoLearnt_25 : decode cX8_whoLearnt 25 = .ok (.iconst 1, 1) := by decide +kernel
theorem dX8_whoLearnt_26 : decode cX8_whoLearnt 26 = .ok (.iload_n 3, 1) := by decide +kernel
theorem dX8_whoLearnt_27 : decode cX8_whoLearnt 27 = .ok (.ishl, 1) := by decide +kernel
theorem dX8_whoLearnt_28 : decode cX8_whoLearnt 28 = .ok (.ior, 1) := by decide +kernel
theorem dX8_whoLearnt_29 : decode cX8_whoLearnt 29 = .ok (.istore_n 2, 1) := by decide +kernel
theorem dX8_whoLearnt_30 : decode cX8_whoLearnt 30 = .ok (.iinc 3 1, 3) := by decide +kernel
theorem dX8_whoLearnt_33 : decode cX8_whoLearnt 33 = .ok (.goto (-29), 3) := by decide +kernel
theorem dX8_whoLearnt_36 : decode cX8_whoLearnt 36 = .ok (.iload_n 2, 1) := by decide +kernel
theorem dX8_whoLearnt_37 : decode cX8_whoLearnt 37 = .ok (.ireturn, 1) := by decide +kernel
theorem dX8_allLearnt_0 : decode cX8_allLearnt 0 = .ok (.iconst 0, 1) := by decide +kernel
theorem dX8_allLearnt_1 : decode cX8_allLearnt 1 = .ok (.istore_n 1, 1) := by decide +kernel
theorem dX8_allLearnt_2 : decode cX8_allLearnt 2 = .ok (.iconst 0, 1) := by decide +kernel
theorem dX8_allLearnt_3 : decode cX8_allLearnt 3 = .ok (.istore_n 2, 1) := by decide +kernel
theorem dX8_allLearnt_4 : decode cX8_allLearnt 4 = .ok (.iload_n 2, 1) := by decide +kernel
theorem dX8_allLearnt_5 : decode cX8_allLearnt 5 = .ok (.aload_n 0, 1) := by decide +kernel
theorem dX8_allLearnt_6 : decode cX8_allLearnt 6 = .ok (.getfield 9, 3) := by decide +kernel
theorem dX8_allLearnt_9 : decode cX8_allLearnt 9 = .ok (.if_icmp .ge 20, 3) := by decide +kernel
theorem dX8_allLearnt_12 : decode cX8_allLearnt 12 = .ok (.iload_n 1, 1) := by decide +kernel
theorem dX8_allLearnt_13 : decode cX8_allLearnt 13 = .ok (.aload_n 0, 1) := by decide +kernel
theorem dX8_allLearnt_14 : decode cX8_allLearnt 14 = .ok (.iload_n 2, 1) := by decide +kernel
theorem dX8_allLearnt_15 : decode cX8_allLearnt 15 = .ok (.invokevirtual 76, 3) := by decide +kernel
theorem dX8_allLearnt_18 : decode cX8_allLearnt 18 = .ok (.invokestatic 83, 3) := by decide +kernel
theorem dX8_allLearnt_21 : decode cX8_allLearnt 21 = .ok (.iadd, 1) := by decide +kernel
theorem dX8_allLearnt_22 : decode cX8_allLearnt 22 = .ok (.istore_n 1, 1) := by decide +kernel
theorem dX8_allLearnt_23 : decode cX8_allLearnt 23 = .ok (.iinc 2 1, 3) := by decide +kernel
theorem dX8_allLearnt_26 : decode cX8_allLearnt 26 = .ok (.goto (-22), 3) := by decide +kernel
theorem dX8_allLearnt_29 : decode cX8_allLearnt 29 = .ok (.iload_n 1, 1) := by decide +kernel
theorem dX8_allLearnt_30 : decode cX8_allLearnt 30 = .ok (.ireturn, 1) := by decide +kernel
theorem dX8_learn_0 : decode cX8_learn 0 = .ok (.aload_n 0, 1) := by decide +kernel
theorem dX8_learn_1 : decode cX8_learn 1 = .ok (.getfield 22, 3) := by decide +kernel
theorem dX8_learn_4 : decode cX8_learn 4 = .ok (.iload_n 1, 1) := by decide +kernel
theorem dX8_learn_5 : decode cX8_learn 5 = .ok (.aload_n 0, 1) := by decide +kernel
theorem dX8_learn_6 : decode cX8_learn 6 = .ok (.iload_n 1, 1) := by decide +kernel
theorem dX8_learn_7 : decode cX8_learn 7 = .ok (.invokevirtual 76, 3) := by decide +kernel
theorem dX8_learn_10 : decode cX8_learn 10 = .ok (.iconst 1, 1) := by decide +kernel
theorem dX8_learn_11 : decode cX8_learn 11 = .ok (.iload_n 2, 1) := by decide +kernel
theorem dX8_learn_12 : decode cX8_learn 12 = .ok (.ishl, 1) := by decide +kernel
theorem dX8_learn_13 : decode cX8_learn 13 = .ok (.ior, 1) := by decide +kernel
theorem dX8_learn_14 : decode cX8_learn 14 = .ok (.invokestatic 56, 3) := by decide +kernel
theorem dX8_learn_17 : decode cX8_learn 17 = .ok (.return_, 1) := by decide +kernel
theorem dX8_beat_0 : decode cX8_beat 0 = .ok (.aload_n 0, 1) := by decide +kernel
theorem dX8_beat_1 : decode cX8_beat 1 = .ok (.iload_n 1, 1) := by decide +kernel
theorem dX8_beat_2 : decode cX8_beat 2 = .ok (.invokevirtual 64, 3) := by decide +kernel
theorem dX8_beat_5 : decode cX8_beat 5 = .ok (.istore 4, 2) := by decide +kernel
theorem dX8_beat_7 : decode cX8_beat 7 = .ok (.aload_n 0, 1) := by decide +kernel
theorem dX8_beat_8 : decode cX8_beat 8 = .ok (.iload 4, 2) := by decide +kernel
theorem dX8_beat_10 : decode cX8_beat 10 = .ok (.invokevirtual 88, 3) := by decide +kernel
theorem dX8_beat_13 : decode cX8_beat 13 = .ok (.iload_n 2, 1) := by decide +kernel
theorem dX8_beat_14 : decode cX8_beat 14 = .ok (.iadd, 1) := by decide +kernel
theorem dX8_beat_15 : decode cX8_beat 15 = .ok (.istore 5, 2) := by decide +kernel
theorem dX8_beat_17 : decode cX8_beat 17 = .ok (.aload_n 0, 1) := by decide +kernel
theorem dX8_beat_18 : decode cX8_beat 18 = .ok (.getfield 25, 3) := by decide +kernel
theorem dX8_beat_21 : decode cX8_beat 21 = .ok (.iload 4, 2) := by decide +kernel
theorem dX8_beat_23 : decode cX8_beat 23 = .ok (.iload 5, 2) := by decide +kernel
theorem dX8_beat_25 : decode cX8_beat 25 = .ok (.invokestatic 56, 3) := by decide +kernel
theorem dX8_beat_28 : decode cX8_beat 28 = .ok (.aload_n 0, 1) := by decide +kernel
theorem dX8_beat_29 : decode cX8_beat 29 = .ok (.iload_n 1, 1) := by decide +kernel
theorem dX8_beat_30 : decode cX8_beat 30 = .ok (.iload 4, 2) := by decide +kernel
theorem dX8_beat_32 : decode cX8_beat 32 = .ok (.aload_n 0, 1) := by decide +kernel
theorem dX8_beat_33 : decode cX8_beat 33 = .ok (.iload_n 1, 1) := by decide +kernel
theorem dX8_beat_34 : decode cX8_beat 34 = .ok (.iload 4, 2) := by decide +kernel
theorem dX8_beat_36 : decode cX8_beat 36 = .ok (.invokevirtual 68, 3) := by decide +kernel
theorem dX8_beat_39 : decode cX8_beat 39 = .ok (.iload 5, 2) := by decide +kernel
theorem dX8_beat_41 : decode cX8_beat 41 = .ok (.iload_n 3, 1) := by decide +kernel
theorem dX8_beat_42 : decode cX8_beat 42 = .ok (.invokestatic 91, 3) := by decide +kernel
theorem dX8_beat_45 : decode cX8_beat 45 = .ok (.invokevirtual 48, 3) := by decide +kernel
theorem dX8_beat_48 : decode cX8_beat 48 = .ok (.return_, 1) := by decide +kernel
theorem dX9_init_0 : decode cX9_init 0 = .ok (.aload_n 0, 1) := by decide +kernel
theorem dX9_init_1 : decode cX9_init 1 = .ok (.invokespecial 3, 3) := by decide +kernel
theorem dX9_init_4 : decode cX9_init 4 = .ok (.aload_n 0, 1) := by decide +kernel
theorem dX9_init_5 : decode cX9_init 5 = .ok (.iconst 5, 1) := by decide +kernel
theorem dX9_init_6 : decode cX9_init 6 = .ok (.newarray .int, 2) := by decide +kernel
theorem dX9_init_8 : decode cX9_init 8 = .ok (.putfield 9, 3) := by decide +kernel
theorem dX9_init_11 : decode cX9_init 11 = .ok (.aload_n 0, 1) := by decide +kernel
theorem dX9_init_12 : decode cX9_init 12 = .ok (.iconst 5, 1) := by decide +kernel
theorem dX9_init_13 : decode cX9_init 13 = .ok (.newarray .int, 2) := by decide +kernel
theorem dX9_init_15 : decode cX9_init 15 = .ok (.putfield 15, 3) := by decide +kernel
theorem dX9_init_18 : decode cX9_init 18 = .ok (.aload_n 0, 1) := by decide +kernel
theorem dX9_init_19 : decode cX9_init 19 = .ok (.iconst 0, 1) := by decide +kernel
theorem dX9_init_20 : decode cX9_init 20 = .ok (.putfield 18, 3) := by decide +kernel
theorem dX9_init_23 : decode cX9_init 23 = .ok (.aload_n 0, 1) := by decide +kernel
theorem dX9_init_24 : decode cX9_init 24 = .ok (.iconst 0, 1) := by decide +kernel
theorem dX9_init_25 : decode cX9_init 25 = .ok (.putfield 22, 3) := by decide +kernel
theorem dX9_init_28 : decode cX9_init 28 = .ok (.return_, 1) := by decide +kernel
theorem dX9_read_0 : decode cX9_read 0 = .ok (.aload_n 0, 1) := by decide +kernel
theorem dX9_read_1 : decode cX9_read 1 = .ok (.aload_n 1, 1) := by decide +kernel
theorem dX9_read_2 : decode cX9_read 2 = .ok (.getfield 25, 3) := by decide +kernel
theorem dX9_read_5 : decode cX9_read 5 = .ok (.iconst 3, 1) := by decide +kernel
theorem dX9_read_6 : decode cX9_read 6 = .ok (.idiv, 1) := by decide +kernel
theorem dX9_read_7 : decode cX9_read 7 = .ok (.putfield 18, 3) := by decide +kernel
theorem dX9_read_10 : decode cX9_read 10 = .ok (.iconst 0, 1) := by decide +kernel
theorem dX9_read_11 : decode cX9_read 11 = .ok (.istore_n 2, 1) := by decide +kernel
theorem dX9_read_12 : decode cX9_read 12 = .ok (.iload_n 2, 1) := by decide +kernel
theorem dX9_read_13 : decode cX9_read 13 = .ok (.aload_n 0, 1) := by decide +kernel
theorem dX9_read_14 : decode cX9_read 14 = .ok (.getfield 18, 3) := by decide +kernel
theorem dX9_read_17 : decode cX9_read 17 = .ok (.if_icmp .ge 41, 3) := by decide +kernel
theorem dX9_read_20 : decode cX9_read 20 = .ok (.aload_n 0, 1) := by decide +kernel
theorem dX9_read_21 : decode cX9_read 21 = .ok (.getfield 9, 3) := by decide +kernel
theorem dX9_read_24 : decode cX9_read 24 = .ok (.iload_n 2, 1) := by decide +kernel
theorem dX9_read_25 : decode cX9_read 25 = .ok (.aload_n 1, 1) := by decide +kernel
theorem dX9_read_26 : decode cX9_read 26 = .ok (.iconst 3, 1) := by decide +kernel
theorem dX9_read_27 : decode cX9_read 27 = .ok (.iload_n 2, 1) := by decide +kernel
theorem dX9_read_28 : decode cX9_read 28 = .ok (.imul, 1) := by decide +kernel
theorem dX9_read_29 : decode cX9_read 29 = .ok (.invokevirtual 30, 3) := by decide +kernel
theorem dX9_read_32 : decode cX9_read 32 = .ok (.invokestatic 34, 3) := by decide +kernel
theorem dX9_read_35 : decode cX9_read 35 = .ok (.aload_n 0, 1) := by decide +kernel
theorem dX9_read_36 : decode cX9_read 36 = .ok (.getfield 15, 3) := by decide +kernel
theorem dX9_read_39 : decode cX9_read 39 = .ok (.iload_n 2, 1) := by decide +kernel
theorem dX9_read_40 : decode cX9_read 40 = .ok (.aload_n 1, 1) := by decide +kernel
theorem dX9_read_41 : decode cX9_read 41 = .ok (.iconst 3, 1) := by decide +kernel
theorem dX9_read_42 : decode cX9_read 42 = .ok (.iload_n 2, 1) := by decide +kernel
theorem dX9_read_43 : decode cX9_read 43 = .ok (.imul, 1) := by decide +kernel
theorem dX9_read_44 : decode cX9_read 44 = .ok (.iconst 1, 1) := by decide +kernel
theorem dX9_read_45 : decode cX9_read 45 = .ok (.iadd, 1) := by decide +kernel
theorem dX9_read_46 : decode cX9_read 46 = .ok (.invokevirtual 30, 3) := by decide +kernel
theorem dX9_read_49 : decode cX9_read 49 = .ok (.invokestatic 34, 3) := by decide +kernel
theorem dX9_read_52 : decode cX9_read 52 = .ok (.iinc 2 1, 3) := by decide +kernel
theorem dX9_read_55 : decode cX9_read 55 = .ok (.goto (-43), 3) := by decide +kernel
theorem dX9_read_58 : decode cX9_read 58 = .ok (.aload_n 0, 1) := by decide +kernel
theorem dX9_read_59 : decode cX9_read 59 = .ok (.aload_n 1, 1) := by decide +kernel
theorem dX9_read_60 : decode cX9_read 60 = .ok (.aload_n 1, 1) := by decide +kernel
theorem dX9_read_61 : decode cX9_read 61 = .ok (.getfield 25, 3) := by decide +kernel
theorem dX9_read_64 : decode cX9_read 64 = .ok (.iconst 1, 1) := by decide +kernel
theorem dX9_read_65 : decode cX9_read 65 = .ok (.isub, 1) := by decide +kernel
theorem dX9_read_66 : decode cX9_read 66 = .ok (.invokevirtual 30, 3) := by decide +kernel
theorem dX9_read_69 : decode cX9_read 69 = .ok (.putfield 22, 3) := by decide +kernel
theorem dX9_read_72 : decode cX9_read 72 = .ok (.return_, 1) := by decide +kernel
theorem dX9_isRead_0 : decode cX9_isRead 0 = .ok (.aload_n 0, 1) := by decide +kernel
theorem dX9_isRead_1 : decode cX9_isRead 1 = .ok (.getfield 18, 3) := by decide +kernel
theorem dX9_isRead_4 : decode cX9_isRead 4 = .ok (.ifCond .le 7, 3) := by decide +kernel
theorem dX9_isRead_7 : decode cX9_isRead 7 = .ok (.iconst 1, 1) := by decide +kernel
theorem dX9_isRead_8 : decode cX9_isRead 8 = .ok (.goto 4, 3) := by decide +kernel
theorem dX9_isRead_11 : decode cX9_isRead 11 = .ok (.iconst 0, 1) := by decide +kernel
theorem dX9_isRead_12 : decode cX9_isRead 12 = .ok (.ireturn, 1) := by decide +kernel
theorem dX9_has_0 : decode cX9_has 0 = .ok (.iload_n 1, 1) := by decide +kernel
theorem dX9_has_1 : decode cX9_has 1 = .ok (.ifCond .lt 15, 3) := by decide +kernel
theorem dX9_has_4 : decode cX9_has 4 = .ok (.iload_n 1, 1) := by decide +kernel
theorem dX9_has_5 : decode cX9_has 5 = .ok (.aload_n 0, 1) := by decide +kernel
theorem dX9_has_6 : decode cX9_has 6 = .ok (.getfield 18, 3) := by decide +kernel
theorem dX9_has_9 : decode cX9_has 9 = .ok (.if_icmp .ge 7, 3) := by decide +kernel
theorem dX9_has_12 : decode cX9_has 12 = .ok (.iconst 1, 1) := by decide +kernel
theorem dX9_has_13 : decode cX9_has 13 = .ok (.goto 4, 3) := by decide +kernel
theorem dX9_has_16 : decode cX9_has 16 = .ok (.iconst 0, 1) := by decide +kernel
theorem dX9_has_17 : decode cX9_has 17 = .ok (.ireturn, 1) := by decide +kernel
theorem dX9_hardOf_0 : decode cX9_hardOf 0 = .ok (.aload_n 0, 1) := by decide +kernel
theorem dX9_hardOf_1 : decode cX9_hardOf 1 = .ok (.getfield 9, 3) := by decide +kernel
theorem dX9_hardOf_4 : decode cX9_hardOf 4 = .ok (.iload_n 1, 1) := by decide +kernel
theorem dX9_hardOf_5 : decode cX9_hardOf 5 = .ok (.invokestatic 38, 3) := by decide +kernel
theorem dX9_hardOf_8 : decode cX9_hardOf 8 = .ok (.ireturn, 1) := by decide +kernel
theorem dX9_blowsOf_0 : decode cX9_blowsOf 0 = .ok (.aload_n 0, 1) := by decide +kernel
theorem dX9_blowsOf_1 : decode cX9_blowsOf 1 = .ok (.getfield 15, 3) := by decide +kernel
theorem dX9_blowsOf_4 : decode cX9_blowsOf 4 = .ok (.iload_n 1, 1) := by decide +kernel
theorem dX9_blowsOf_5 : decode cX9_blowsOf 5 = .ok (.invokestatic 38, 3) := by decide +kernel
theorem dX9_blowsOf_8 : decode cX9_blowsOf 8 = .ok (.ireturn, 1) := by decide +kernel
theorem dX9_tenthsFor_0 : decode cX9_tenthsFor 0 = .ok (.aload_n 1, 1) := by decide +kernel
theorem dX9_tenthsFor_1 : decode cX9_tenthsFor 1 = .ok (.getfield 42, 3) := by decide +kernel
theorem dX9_tenthsFor_4 : decode cX9_tenthsFor 4 = .ok (.aload_n 1, 1) := by decide +kernel
theorem dX9_tenthsFor_5 : decode cX9_tenthsFor 5 = .ok (.iload_n 2, 1) := by decide +kernel
theorem dX9_tenthsFor_6 : decode cX9_tenthsFor 6 = .ok (.invokevirtual 47, 3) := by decide +kernel
theorem dX9_tenthsFor_9 : decode cX9_tenthsFor 9 = .ok (.iadd, 1) := by decide +kernel
theorem dX9_tenthsFor_10 : decode cX9_tenthsFor 10 = .ok (.aload_n 0, 1) := by decide +kernel
theorem dX9_tenthsFor_11 : decode cX9_tenthsFor 11 = .ok (.iload_n 3, 1) := by decide +kernel
theorem dX9_tenthsFor_12 : decode cX9_tenthsFor 12 = .ok (.invokevirtual 50, 3) := by decide +kernel
theorem dX9_tenthsFor_15 : decode cX9_tenthsFor 15 = .ok (.isub, 1) := by decide +kernel
theorem dX9_tenthsFor_16 : decode cX9_tenthsFor 16 = .ok (.istore 4, 2) := by decide +kernel
theorem dX9_tenthsFor_18 : decode cX9_tenthsFor 18 = .ok (.iconst 0, 1) := by decide +kernel
theorem dX9_tenthsFor_19 : decode cX9_tenthsFor 19 = .ok (.bipush 10, 2) := by decide +kernel
theorem dX9_tenthsFor_21 : decode cX9_tenthsFor 21 = .ok (.iload 4, 2) := by decide +kernel
theorem dX9_tenthsFor_23 : decode cX9_tenthsFor 23 = .ok (.invokestatic 53, 3) := by decide +kernel
theorem dX9_tenthsFor_26 : decode cX9_tenthsFor 26 = .ok (.invokestatic 59, 3) := by decide +kernel
theorem dX9_tenthsFor_29 : decode cX9_tenthsFor 29 = .ok (.ireturn, 1) := by decide +kernel
theorem dJ6_bitCount_0f7a4_0 : decode cJ6_bitCount_0f7a4 0 = .ok (.iload_n 0, 1) := by decide +kernel
theorem dJ6_bitCount_0f7a4_1 : decode cJ6_bitCount_0f7a4 1 = .ok (.iload_n 0, 1) := by decide +kernel
theorem dJ6_bitCount_0f7a4_2 : decode cJ6_bitCount_0f7a4 2 = .ok (.iconst 1, 1) := by decide +kernel
theorem dJ6_bitCount_0f7a4_3 : decode cJ6_bitCount_0f7a4 3 = .ok (.iushr, 1) := by decide +kernel
theorem dJ6_bitCount_0f7a4_4 : decode cJ6_bitCount_0f7a4 4 = .ok (.ldc_w 265, 3) := by decide +kernel
theorem dJ6_bitCount_0f7a4_7 : decode cJ6_bitCount_0f7a4 7 = .ok (.iand, 1) := by decide +kernel
theorem dJ6_bitCount_0f7a4_8 : decode cJ6_bitCount_0f7a4 8 = .ok (.isub, 1) := by decide +kernel
theorem dJ6_bitCount_0f7a4_9 : decode cJ6_bitCount_0f7a4 9 = .ok (.istore_n 0, 1) := by decide +kernel
theorem dJ6_bitCount_0f7a4_10 : decode cJ6_bitCount_0f7a4 10 = .ok (.iload_n 0, 1) := by decide +kernel
theorem dJ6_bitCount_0f7a4_11 : decode cJ6_bitCount_0f7a4 11 = .ok (.ldc_w 266, 3) := by decide +kernel
theorem dJ6_bitCount_0f7a4_14 : decode cJ6_bitCount_0f7a4 14 = .ok (.iand, 1) := by decide +kernel
theorem dJ6_bitCount_0f7a4_15 : decode cJ6_bitCount_0f7a4 15 = .ok (.iload_n 0, 1) := by decide +kernel
theorem dJ6_bitCount_0f7a4_16 : decode cJ6_bitCount_0f7a4 16 = .ok (.iconst 2, 1) := by decide +kernel
theorem dJ6_bitCount_0f7a4_17 : decode cJ6_bitCount_0f7a4 17 = .ok (.iushr, 1) := by decide +kernel
theorem dJ6_bitCount_0f7a4_18 : decode cJ6_bitCount_0f7a4 18 = .ok (.ldc_w 266, 3) := by decide +kernel
theorem dJ6_bitCount_0f7a4_21 : decode cJ6_bitCount_0f7a4 21 = .ok (.iand, 1) := by decide +kernel
theorem dJ6_bitCount_0f7a4_22 : decode cJ6_bitCount_0f7a4 22 = .ok (.iadd, 1) := by decide +kernel
theorem dJ6_bitCount_0f7a4_23 : decode cJ6_bitCount_0f7a4 23 = .ok (.istore_n 0, 1) := by decide +kernel
theorem dJ6_bitCount_0f7a4_24 : decode cJ6_bitCount_0f7a4 24 = .ok (.iload_n 0, 1) := by decide +kernel
theorem dJ6_bitCount_0f7a4_25 : decode cJ6_bitCount_0f7a4 25 = .ok (.iload_n 0, 1) := by decide +kernel
theorem dJ6_bitCount_0f7a4_26 : decode cJ6_bitCount_0f7a4 26 = .ok (.iconst 4, 1) := by decide +kernel
theorem dJ6_bitCount_0f7a4_27 : decode cJ6_bitCount_0f7a4 27 = .ok (.iushr, 1) := by decide +kernel
theorem dJ6_bitCount_0f7a4_28 : decode cJ6_bitCount_0f7a4 28 = .ok (.iadd, 1) := by decide +kernel
theorem dJ6_bitCount_0f7a4_29 : decode cJ6_bitCount_0f7a4 29 = .ok (.ldc_w 267, 3) := by decide +kernel
theorem dJ6_bitCount_0f7a4_32 : decode cJ6_bitCount_0f7a4 32 = .ok (.iand, 1) := by decide +kernel
theorem dJ6_bitCount_0f7a4_33 : decode cJ6_bitCount_0f7a4 33 = .ok (.istore_n 0, 1) := by decide +kernel
theorem dJ6_bitCount_0f7a4_34 : decode cJ6_bitCount_0f7a4 34 = .ok (.iload_n 0, 1) := by decide +kernel
theorem dJ6_bitCount_0f7a4_35 : decode cJ6_bitCount_0f7a4 35 = .ok (.iload_n 0, 1) := by decide +kernel
theorem dJ6_bitCount_0f7a4_36 : decode cJ6_bitCount_0f7a4 36 = .ok (.bipush 8, 2) := by decide +kernel
theorem dJ6_bitCount_0f7a4_38 : decode cJ6_bitCount_0f7a4 38 = .ok (.iushr, 1) := by decide +kernel
theorem dJ6_bitCount_0f7a4_39 : decode cJ6_bitCount_0f7a4 39 = .ok (.iadd, 1) := by decide +kernel
theorem dJ6_bitCount_0f7a4_40 : decode cJ6_bitCount_0f7a4 40 = .ok (.istore_n 0, 1) := by decide +kernel
theorem dJ6_bitCount_0f7a4_41 : decode cJ6_bitCount_0f7a4 41 = .ok (.iload_n 0, 1) := by decide +kernel
theorem dJ6_bitCount_0f7a4_42 : decode cJ6_bitCount_0f7a4 42 = .ok (.iload_n 0, 1) := by decide +kernel
theorem dJ6_bitCount_0f7a4_43 : decode cJ6_bitCount_0f7a4 43 = .ok (.bipush 16, 2) := by decide +kernel
theorem dJ6_bitCount_0f7a4_45 : decode cJ6_bitCount_0f7a4 45 = .ok (.iushr, 1) := by decide +kernel
theorem dJ6_bitCount_0f7a4_46 : decode cJ6_bitCount_0f7a4 46 = .ok (.iadd, 1) := by decide +kernel
theorem dJ6_bitCount_0f7a4_47 : decode cJ6_bitCount_0f7a4 47 = .ok (.istore_n 0, 1) := by decide +kernel
theorem dJ6_bitCount_0f7a4_48 : decode cJ6_bitCount_0f7a4 48 = .ok (.iload_n 0, 1) := by decide +kernel
theorem dJ6_bitCount_0f7a4_49 : decode cJ6_bitCount_0f7a4 49 = .ok (.bipush 63, 2) := by decide +kernel
theorem dJ6_bitCount_0f7a4_51 : decode cJ6_bitCount_0f7a4 51 = .ok (.iand, 1) := by decide +kernel
theorem dJ6_bitCount_0f7a4_52 : decode cJ6_bitCount_0f7a4 52 = .ok (.ireturn, 1) := by decide +kernel
theorem dJ9_max_7cf53_0 : decode cJ9_max_7cf53 0 = .ok (.iload_n 0, 1) := by decide +kernel
theorem dJ9_max_7cf53_1 : decode cJ9_max_7cf53 1 = .ok (.iload_n 1, 1) := by decide +kernel
theorem dJ9_max_7cf53_2 : decode cJ9_max_7cf53 2 = .ok (.if_icmp .lt 7, 3) := by decide +kernel
theorem dJ9_max_7cf53_5 : decode cJ9_max_7cf53 5 = .ok (.iload_n 0, 1) := by decide +kernel
theorem dJ9_max_7cf53_6 : decode cJ9_max_7cf53 6 = .ok (.goto 4, 3) := by decide +kernel
theorem dJ9_max_7cf53_9 : decode cJ9_max_7cf53 9 = .ok (.iload_n 1, 1) := by decide +kernel
theorem dJ9_max_7cf53_10 : decode cJ9_max_7cf53 10 = .ok (.ireturn, 1) := by decide +kernel
theorem dJ9_min_7cf53_0 : decode cJ9_min_7cf53 0 = .ok (.iload_n 0, 1) := by decide +kernel
theorem dJ9_min_7cf53_1 : decode cJ9_min_7cf53 1 = .ok (.iload_n 1, 1) := by decide +kernel
theorem dJ9_min_7cf53_2 : decode cJ9_min_7cf53 2 = .ok (.if_icmp .gt 7, 3) := by decide +kernel
theorem dJ9_min_7cf53_5 : decode cJ9_min_7cf53 5 = .ok (.iload_n 0, 1) := by decide +kernel
theorem dJ9_min_7cf53_6 : decode cJ9_min_7cf53 6 = .ok (.goto 4, 3) := by decide +kernel
theorem dJ9_min_7cf53_9 : decode cJ9_min_7cf53 9 = .ok (.iload_n 1, 1) := by decide +kernel
theorem dJ9_min_7cf53_10 : decode cJ9_min_7cf53 10 = .ok (.ireturn, 1) := by decide +kernel
