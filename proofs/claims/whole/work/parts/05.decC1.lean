theorem dX11_init_0 : decode cX11_init 0 = .ok (.aload_n 0, 1) := by decide +kernel
theorem dX11_init_1 : decode cX11_init 1 = .ok (.invokespecial 1, 3) := by decide +kernel
theorem dX11_init_4 : decode cX11_init 4 = .ok (.aload_n 0, 1) := by decide +kernel
theorem dX11_init_5 : decode cX11_init 5 = .ok (.iconst 5, 1) := by decide +kernel
theorem dX11_init_6 : decode cX11_init 6 = .ok (.newarray .int, 2) := by decide +kernel
theorem dX11_init_8 : decode cX11_init 8 = .ok (.putfield 7, 3) := by decide +kernel
theorem dX11_init_11 : decode cX11_init 11 = .ok (.aload_n 0, 1) := by decide +kernel
theorem dX11_init_12 : decode cX11_init 12 = .ok (.iconst 5, 1) := by decide +kernel
theorem dX11_init_13 : decode cX11_init 13 = .ok (.newarray .int, 2) := by decide +kernel
theorem dX11_init_15 : decode cX11_init 15 = .ok (.putfield 13, 3) := by decide +kernel
theorem dX11_init_18 : decode cX11_init 18 = .ok (.aload_n 0, 1) := by decide +kernel
theorem dX11_init_19 : decode cX11_init 19 = .ok (.iconst 3, 1) := by decide +kernel
theorem dX11_init_20 : decode cX11_init 20 = .ok (.newarray .int, 2) := by decide +kernel
theorem dX11_init_22 : decode cX11_init 22 = .ok (.putfield 16, 3) := by decide +kernel
theorem dX11_init_25 : decode cX11_init 25 = .ok (.aload_n 0, 1) := by decide +kernel
theorem dX11_init_26 : decode cX11_init 26 = .ok (.iconst 3, 1) := by decide +kernel
theorem dX11_init_27 : decode cX11_init 27 = .ok (.newarray .int, 2) := by decide +kernel
theorem dX11_init_29 : decode cX11_init 29 = .ok (.putfield 19, 3) := by decide +kernel
theorem dX11_init_32 : decode cX11_init 32 = .ok (.aload_n 0, 1) := by decide +kernel
theorem dX11_init_33 : decode cX11_init 33 = .ok (.iconst 3, 1) := by decide +kernel
theorem dX11_init_34 : decode cX11_init 34 = .ok (.newarray .int, 2) := by decide +kernel
theorem dX11_init_36 : decode cX11_init 36 = .ok (.putfield 22, 3) := by decide +kernel
theorem dX11_init_39 : decode cX11_init 39 = .ok (.aload_n 0, 1) := by decide +kernel
theorem dX11_init_40 : decode cX11_init 40 = .ok (.iconst 3, 1) := by decide +kernel
theorem dX11_init_41 : decode cX11_init 41 = .ok (.newarray .int, 2) := by decide +kernel
theorem dX11_init_43 : decode cX11_init 43 = .ok (.putfield 25, 3) := by decide +kernel
theorem dX11_init_46 : decode cX11_init 46 = .ok (.aload_n 0, 1) := by decide +kernel
theorem dX11_init_47 : decode cX11_init 47 = .ok (.iconst 3, 1) := by decide +kernel
theorem dX11_init_48 : decode cX11_init 48 = .ok (.newarray .int, 2) := by decide +kernel
theorem dX11_init_50 : decode cX11_init 50 = .ok (.putfield 28, 3) := by decide +kernel
theorem dX11_init_53 : decode cX11_init 53 = .ok (.aload_n 0, 1) := by decide +kernel
theorem dX11_init_54 : decode cX11_init 54 = .ok (.bipush 9, 2) := by decide +kernel
theorem dX11_init_56 : decode cX11_init 56 = .ok (.newarray .int, 2) := by decide +kernel
theorem dX11_init_58 : decode cX11_init 58 = .ok (.putfield 31, 3) := by decide +kernel
theorem dX11_init_61 : decode cX11_init 61 = .ok (.aload_n 0, 1) := by decide +kernel
theorem dX11_init_62 : decode cX11_init 62 = .ok (.bipush 6, 2) := by decide +kernel
theorem dX11_init_64 : decode cX11_init 64 = .ok (.newarray .int, 2) := by decide +kernel
theorem dX11_init_66 : decode cX11_init 66 = .ok (.putfield 34, 3) := by decide +kernel
theorem dX11_init_69 : decode cX11_init 69 = .ok (.aload_n 0, 1) := by decide +kernel
theorem dX11_init_70 : decode cX11_init 70 = .ok (.bipush 6, 2) := by decide +kernel
theorem dX11_init_72 : decode cX11_init 72 = .ok (.newarray .int, 2) := by decide +kernel
theorem dX11_init_74 : decode cX11_init 74 = .ok (.putfield 37, 3) := by decide +kernel
theorem dX11_init_77 : decode cX11_init 77 = .ok (.aload_n 0, 1) := by decide +kernel
theorem dX11_init_78 : decode cX11_init 78 = .ok (.bipush 6, 2) := by decide +kernel
theorem dX11_init_80 : decode cX11_init 80 = .ok (.newarray .int, 2) := by decide +kernel
theorem dX11_init_82 : decode cX11_init 82 = .ok (.putfield 40, 3) := by decide +kernel
theorem dX11_init_85 : decode cX11_init 85 = .ok (.aload_n 0, 1) := by decide +kernel
theorem dX11_init_86 : decode cX11_init 86 = .ok (.bipush 18, 2) := by decide +kernel
theorem dX11_init_88 : decode cX11_init 88 = .ok (.newarray .byte, 2) := by decide +kernel
theorem dX11_init_90 : decode cX11_init 90 = .ok (.putfield 43, 3) := by decide +kernel
theorem dX11_init_93 : decode cX11_init 93 = .ok (.aload_n 0, 1) := by decide +kernel
theorem dX11_init_94 : decode cX11_init 94 = .ok (.iconst 5, 1) := by decide +kernel
theorem dX11_init_95 : decode cX11_init 95 = .ok (.newarray .int, 2) := by decide +kernel
theorem dX11_init_97 : decode cX11_init 97 = .ok (.putfield 47, 3) := by decide +kernel
theorem dX11_init_100 : decode cX11_init 100 = .ok (.aload_n 0, 1) := by decide +kernel
theorem dX11_init_101 : decode cX11_init 101 = .ok (.iconst 5, 1) := by decide +kernel
theorem dX11_init_102 : decode cX11_init 102 = .ok (.newarray .int, 2) := by decide +kernel
theorem dX11_init_104 : decode cX11_init 104 = .ok (.putfield 50, 3) := by decide +kernel
theorem dX11_init_107 : decode cX11_init 107 = .ok (.aload_n 0, 1) := by decide +kernel
theorem dX11_init_108 : decode cX11_init 108 = .ok (.bipush 15, 2) := by decide +kernel
theorem dX11_init_110 : decode cX11_init 110 = .ok (.newarray .int, 2) := by decide +kernel
theorem dX11_init_112 : decode cX11_init 112 = .ok (.putfield 53, 3) := by decide +kernel
theorem dX11_init_115 : decode cX11_init 115 = .ok (.aload_n 0, 1) := by decide +kernel
theorem dX11_init_116 : decode cX11_init 116 = .ok (.bipush 9, 2) := by decide +kernel
theorem dX11_init_118 : decode cX11_init 118 = .ok (.newarray .int, 2) := by decide +kernel
theorem dX11_init_120 : decode cX11_init 120 = .ok (.putfield 56, 3) := by decide +kernel
theorem dX11_init_123 : decode cX11_init 123 = .ok (.aload_n 0, 1) := by decide +kernel
theorem dX11_init_124 : decode cX11_init 124 = .ok (.iconst 3, 1) := by decide +kernel
theorem dX11_init_125 : decode cX11_init 125 = .ok (.newarray .int, 2) := by decide +kernel
theorem dX11_init_127 : decode cX11_init 127 = .ok (.putfield 59, 3) := by decide +kernel
theorem dX11_init_130 : decode cX11_init 130 = .ok (.aload_n 0, 1) := by decide +kernel
theorem dX11_init_131 : decode cX11_init 131 = .ok (.iconst 3, 1) := by decide +kernel
theorem dX11_init_132 : decode cX11_init 132 = .ok (.newarray .int, 2) := by decide +kernel
theorem dX11_init_134 : decode cX11_init 134 = .ok (.putfield 62, 3) := by decide +kernel
theorem dX11_init_137 : decode cX11_init 137 = .ok (.aload_n 0, 1) := by decide +kernel
theorem dX11_init_138 : decode cX11_init 138 = .ok (.iconst 3, 1) := by decide +kernel
theorem dX11_init_139 : decode cX11_init 139 = .ok (.newarray .int, 2) := by decide +kernel
theorem dX11_init_141 : decode cX11_init 141 = .ok (.putfield 65, 3) := by decide +kernel
theorem dX11_init_144 : decode cX11_init 144 = .ok (.aload_n 0, 1) := by decide +kernel
theorem dX11_init_145 : decode cX11_init 145 = .ok (.bipush 6, 2) := by decide +kernel
theorem dX11_init_147 : decode cX11_init 147 = .ok (.newarray .int, 2) := by decide +kernel
theorem dX11_init_149 : decode cX11_init 149 = .ok (.putfield 68, 3) := by decide +kernel
theorem dX11_init_152 : decode cX11_init 152 = .ok (.aload_n 0, 1) := by decide +kernel
theorem dX11_init_153 : decode cX11_init 153 = .ok (.bipush 6, 2) := by decide +kernel
theorem dX11_init_155 : decode cX11_init 155 = .ok (.newarray .int, 2) := by decide +kernel
theorem dX11_init_157 : decode cX11_init 157 = .ok (.putfield 71, 3) := by decide +kernel
theorem dX11_init_160 : decode cX11_init 160 = .ok (.aload_n 0, 1) := by decide +kernel
theorem dX11_init_161 : decode cX11_init 161 = .ok (.bipush 6, 2) := by decide +kernel
theorem dX11_init_163 : decode cX11_init 163 = .ok (.newarray .int, 2) := by decide +kernel
theorem dX11_init_165 : decode cX11_init 165 = .ok (.putfield 74, 3) := by decide +kernel
theorem dX11_init_168 : decode cX11_init 168 = .ok (.return_, 1) := by decide +kernel
theorem dX11_within_0 : decode cX11_within 0 = .ok (.iload_n 0, 1) := by decide +kernel
theorem dX11_within_1 : decode cX11_within 1 = .ok (.iload_n 1, 1) := by decide +kernel
theorem dX11_within_2 : decode cX11_within 2 = .ok (.if_icmp .lt 12, 3) := by decide +kernel
theorem dX11_within_5 : decode cX11_within 5 = .ok (.iload_n 0, 1) := by decide +kernel
theorem dX11_within_6 : decode cX11_within 6 = .ok (.iload_n 2, 1) := by decide +kernel
theorem dX11_within_7 : decode cX11_within 7 = .ok (.if_icmp .gt 7, 3) := by decide +kernel
theorem dX11_within_10 : decode cX11_within 10 = .ok (.iconst 1, 1) := by decide +kernel
theorem dX11_within_11 : decode cX11_within 11 = .ok (.goto 4, 3) := by decide +kernel
theorem dX11_within_14 : decode cX11_within 14 = .ok (.iconst 0, 1) := by decide +kernel
theorem dX11_within_15 : decode cX11_within 15 = .ok (.ireturn, 1) := by decide +kernel
theorem dX11_has_0 : decode cX11_has 0 = .ok (.iload_n 0, 1) := by decide +kernel
theorem dX11_has_1 : decode cX11_has 1 = .ok (.iload_n 1, 1) := by decide +kernel
theorem dX11_has_2 : decode cX11_has 2 = .ok (.ishr, 1) := by decide +kernel
theorem dX11_has_3 : decode cX11_has 3 = .ok (.iconst 1, 1) := by decide +kernel
theorem dX11_has_4 : decode cX11_has 4 = .ok (.iand, 1) := by decide +kernel
theorem dX11_has_5 : decode cX11_has 5 = .ok (.iconst 1, 1) := by decide +kernel
theorem dX11_has_6 : decode cX11_has 6 = .ok (.if_icmp .ne 7, 3) := by decide +kernel
theorem dX11_has_9 : decode cX11_has 9 = .ok (.iconst 1, 1) := by decide +kernel
theorem dX11_has_10 : decode cX11_has 10 = .ok (.goto 4, 3) := by decide +kernel
theorem dX11_has_13 : decode cX11_has 13 = .ok (.iconst 0, 1) := by decide +kernel
theorem dX11_has_14 : decode cX11_has 14 = .ok (.ireturn, 1) := by decide +kernel
theorem dX11_size_0 : decode cX11_size 0 = .ok (.iconst 0, 1) := by decide +kernel
theorem dX11_size_1 : decode cX11_size 1 = .ok (.istore_n 1, 1) := by decide +kernel
theorem dX11_size_2 : decode cX11_size 2 = .ok (.iconst 0, 1) := by decide +kernel
theorem dX11_size_3 : decode cX11_size 3 = .ok (.istore_n 2, 1) := by decide +kernel
theorem dX11_size_4 : decode cX11_size 4 = .ok (.iload_n 2, 1) := by decide +kernel
theorem dX11_size_5 : decode cX11_size 5 = .ok (.iconst 5, 1) := by decide +kernel
theorem dX11_size_6 : decode cX11_size 6 = .ok (.if_icmp .ge 17, 3) := by decide +kernel
theorem dX11_size_9 : decode cX11_size 9 = .ok (.iload_n 1, 1) := by decide +kernel
theorem dX11_size_10 : decode cX11_size 10 = .ok (.iload_n 0, 1) := by decide +kernel
theorem dX11_size_11 : decode cX11_size 11 = .ok (.iload_n 2, 1) := by decide +kernel
theorem dX11_size_12 : decode cX11_size 12 = .ok (.ishr, 1) := by decide +kernel
theorem dX11_size_13 : decode cX11_size 13 = .ok (.iconst 1, 1) := by decide +kernel
theorem dX11_size_14 : decode cX11_size 14 = .ok (.iand, 1) := by decide +kernel
theorem dX11_size_15 : decode cX11_size 15 = .ok (.iadd, 1) := by decide +kernel
theorem dX11_size_16 : decode cX11_size 16 = .ok (.istore_n 1, 1) := by decide +kernel
theorem dX11_size_17 : decode cX11_size 17 = .ok (.iinc 2 1, 3) := by decide +kernel
theorem dX11_size_20 : decode cX11_size 20 = .ok (.goto (-16), 3) := by decide +kernel
theorem dX11_size_23 : decode cX11_size 23 = .ok (.iload_n 1, 1) := by decide +kernel
theorem dX11_size_24 : decode cX11_size 24 = .ok (.ireturn, 1) := by decide +kernel
theorem dX11_lowest_0 : decode cX11_lowest 0 = .ok (.lload_n 0, 1) := by decide +kernel
theorem dX11_lowest_1 : decode cX11_lowest 1 = .ok (.lstore 5, 2) := by decide +kernel
theorem dX11_lowest_3 : decode cX11_lowest 3 = .ok (.lload_n 2, 1) := by decide +kernel
theorem dX11_lowest_4 : decode cX11_lowest 4 = .ok (.lstore 7, 2) := by decide +kernel
theorem dX11_lowest_6 : decode cX11_lowest 6 = .ok (.lload 7, 2) := by decide +kernel
theorem dX11_lowest_8 : decode cX11_lowest 8 = .ok (.lconst 0, 1) := by decide +kernel
theorem dX11_lowest_9 : decode cX11_lowest 9 = .ok (.lcmp, 1) := by decide +kernel
theorem dX11_lowest_10 : decode cX11_lowest 10 = .ok (.ifCond .eq 21, 3) := by decide +kernel
theorem dX11_lowest_13 : decode cX11_lowest 13 = .ok (.lload 5, 2) := by decide +kernel
theorem dX11_lowest_15 : decode cX11_lowest 15 = .ok (.lload 7, 2) := by decide +kernel
theorem dX11_lowest_17 : decode cX11_lowest 17 = .ok (.lrem, 1) := by decide +kernel
theorem dX11_lowest_18 : decode cX11_lowest 18 = .ok (.lstore 9, 2) := by decide +kernel
theorem dX11_lowest_20 : decode cX11_lowest 20 = .ok (.lload 7, 2) := by decide +kernel
theorem dX11_lowest_22 : decode cX11_lowest 22 = .ok (.lstore 5, 2) := by decide +kernel
theorem dX11_lowest_24 : decode cX11_lowest 24 = .ok (.lload 9, 2) := by decide +kernel
theorem dX11_lowest_26 : decode cX11_lowest 26 = .ok (.lstore 7, 2) := by decide +kernel
theorem dX11_lowest_28 : decode cX11_lowest 28 = .ok (.goto (-22), 3) := by decide +kernel
theorem dX11_lowest_31 : decode cX11_lowest 31 = .ok (.iload 4, 2) := by decide +kernel
theorem dX11_lowest_33 : decode cX11_lowest 33 = .ok (.ifCond .ne 10, 3) := by decide +kernel
theorem dX11_lowest_36 : decode cX11_lowest 36 = .ok (.lload_n 0, 1) := by decide +kernel
theorem dX11_lowest_37 : decode cX11_lowest 37 = .ok (.lload 5, 2) := by decide +kernel
theorem dX11_lowest_39 : decode cX11_lowest 39 = .ok (.ldiv, 1) := by decide +kernel
theorem dX11_lowest_40 : decode cX11_lowest 40 = .ok (.goto 7, 3) := by decide +kernel
theorem dX11_lowest_43 : decode cX11_lowest 43 = .ok (.lload_n 2, 1) := by decide +kernel
theorem dX11_lowest_44 : decode cX11_lowest 44 = .ok (.lload 5, 2) := by decide +kernel
theorem dX11_lowest_46 : decode cX11_lowest 46 = .ok (.ldiv, 1) := by decide +kernel
theorem dX11_lowest_47 : decode cX11_lowest 47 = .ok (.lreturn, 1) := by decide +kernel
theorem dX11_letter_0 : decode cX11_letter 0 = .ok (.iload_n 1, 1) := by decide +kernel
theorem dX11_letter_1 : decode cX11_letter 1 = .ok (.bipush 32, 2) := by decide +kernel
theorem dX11_letter_3 : decode cX11_letter 3 = .ok (.bipush 126, 2) := by decide +kernel
theorem dX11_letter_5 : decode cX11_letter 5 = .ok (.invokestatic 77, 3) := by decide +kernel
theorem dX11_letter_8 : decode cX11_letter 8 = .ok (.ifCond .ne 6, 3) := by decide +kernel
theorem dX11_letter_11 : decode cX11_letter 11 = .ok (.bipush (-102), 2) := by decide +kernel
theorem dX11_letter_13 : decode cX11_letter 13 = .ok (.ireturn, 1) := by decide +kernel
theorem dX11_letter_14 : decode cX11_letter 14 = .ok (.aload_n 0, 1) := by decide +kernel
theorem dX11_letter_15 : decode cX11_letter 15 = .ok (.getfield 81, 3) := by decide +kernel
theorem dX11_letter_18 : decode cX11_letter 18 = .ok (.bipush 18, 2) := by decide +kernel
theorem dX11_letter_20 : decode cX11_letter 20 = .ok (.if_icmp .ne 6, 3) := by decide +kernel
theorem dX11_letter_23 : decode cX11_letter 23 = .ok (.bipush (-104), 2) := by decide +kernel
theorem dX11_letter_25 : decode cX11_letter 25 = .ok (.ireturn, 1) := by decide +kernel
theorem dX11_letter_26 : decode cX11_letter 26 = .ok (.aload_n 0, 1) := by decide +kernel
theorem dX11_letter_27 : decode cX11_letter 27 = .ok (.getfield 43, 3) := by decide +kernel
theorem dX11_letter_30 : decode cX11_letter 30 = .ok (.aload_n 0, 1) := by decide +kernel
theorem dX11_letter_31 : decode cX11_letter 31 = .ok (.getfield 81, 3) := by decide +kernel
theorem dX11_letter_34 : decode cX11_letter 34 = .ok (.iload_n 1, 1) := by decide +kernel
theorem dX11_letter_35 : decode cX11_letter 35 = .ok (.i2b, 1) := by decide +kernel
theorem dX11_letter_36 : decode cX11_letter 36 = .ok (.bastore, 1) := by decide +kernel
theorem dX11_letter_37 : decode cX11_letter 37 = .ok (.aload_n 0, 1) := by decide +kernel
theorem dX11_letter_38 : decode cX11_letter 38 = .ok (.dup, 1) := by decide +kernel
theorem dX11_letter_39 : decode cX11_letter 39 = .ok (.getfield 81, 3) := by decide +kernel
theorem dX11_letter_42 : decode cX11_letter 42 = .ok (.iconst 1, 1) := by decide +kernel
theorem dX11_letter_43 : decode cX11_letter 43 = .ok (.iadd, 1) := by decide +kernel
theorem dX11_letter_44 : decode cX11_letter 44 = .ok (.putfield 81, 3) := by decide +kernel
theorem dX11_letter_47 : decode cX11_letter 47 = .ok (.aload_n 0, 1) := by decide +kernel
theorem dX11_letter_48 : decode cX11_letter 48 = .ok (.getfield 81, 3) := by decide +kernel
theorem dX11_letter_51 : decode cX11_letter 51 = .ok (.ireturn, 1) := by decide +kernel
theorem dX11_blank_0 : decode cX11_blank 0 = .ok (.aload_n 0, 1) := by decide +kernel
theorem dX11_blank_1 : decode cX11_blank 1 = .ok (.getfield 81, 3) := by decide +kernel
theorem dX11_blank_4 : decode cX11_blank 4 = .ok (.istore_n 1, 1) := by decide +kernel
theorem dX11_blank_5 : decode cX11_blank 5 = .ok (.aload_n 0, 1) := by decide +kernel
theorem dX11_blank_6 : decode cX11_blank 6 = .ok (.iconst 0, 1) := by decide +kernel
theorem dX11_blank_7 : decode cX11_blank 7 = .ok (.putfield 81, 3) := by decide +kernel
theorem dX11_blank_10 : decode cX11_blank 10 = .ok (.iload_n 1, 1) := by decide +kernel
theorem dX11_blank_11 : decode cX11_blank 11 = .ok (.ireturn, 1) := by decide +kernel
theorem dX11_isFigure_0 : decode cX11_isFigure 0 = .ok (.iload_n 1, 1) := by decide +kernel
theorem dX11_isFigure_1 : decode cX11_isFigure 1 = .ok (.aload_n 0, 1) := by decide +kernel
theorem dX11_isFigure_2 : decode cX11_isFigure 2 = .ok (.getfield 81, 3) := by decide +kernel
theorem dX11_isFigure_5 : decode cX11_isFigure 5 = .ok (.if_icmp .ge 24, 3) := by decide +kernel
theorem dX11_isFigure_8 : decode cX11_isFigure 8 = .ok (.aload_n 0, 1) := by decide +kernel
theorem dX11_isFigure_9 : decode cX11_isFigure 9 = .ok (.getfield 43, 3) := by decide +kernel
theorem dX11_isFigure_12 : decode cX11_isFigure 12 = .ok (.iload_n 1, 1) := by decide +kernel
theorem dX11_isFigure_13 : decode cX11_isFigure 13 = .ok (.baload, 1) := by decide +kernel
theorem dX11_isFigure_14 : decode cX11_isFigure 14 = .ok (.bipush 48, 2) := by decide +kernel
theorem dX11_isFigure_16 : decode cX11_isFigure 16 = .ok (.isub, 1) := by decide +kernel
theorem dX11_isFigure_17 : decode cX11_isFigure 17 = .ok (.iload_n 2, 1) := by decide +kernel
theorem dX11_isFigure_18 : decode cX11_isFigure 18 = .ok (.iload_n 3, 1) := by decide +kernel
theorem dX11_isFigure_19 : decode cX11_isFigure 19 = .ok (.invokestatic 77, 3) := by decide +kernel
theorem dX11_isFigure_22 : decode cX11_isFigure 22 = .ok (.ifCond .eq 7, 3) := by decide +kernel
theorem dX11_isFigure_25 : decode cX11_isFigure 25 = .ok (.iconst 1, 1) := by decide +kernel
theorem dX11_isFigure_26 : decode cX11_isFigure 26 = .ok (.goto 4, 3) := by decide +kernel
theorem dX11_isFigure_29 : decode cX11_isFigure 29 = .ok (.iconst 0, 1) := by decide +kernel
theorem dX11_isFigure_30 : decode cX11_isFigure 30 = .ok (.ireturn, 1) := by decide +kernel
theorem dX11_isSign_0 : decode cX11_isSign 0 = .ok (.iload_n 1, 1) := by decide +kernel
theorem dX11_isSign_1 : decode cX11_isSign 1 = .ok (.aload_n 0, 1) := by decide +kernel
theorem dX11_isSign_2 : decode cX11_isSign 2 = .ok (.getfield 81, 3) := by decide +kernel
theorem dX11_isSign_5 : decode cX11_isSign 5 = .ok (.if_icmp .ge 17, 3) := by decide +kernel
theorem dX11_isSign_8 : decode cX11_isSign 8 = .ok (.aload_n 0, 1) := by decide +kernel
theorem dX11_isSign_9 : decode cX11_isSign 9 = .ok (.getfield 43, 3) := by decide +kernel
theorem dX11_isSign_12 : decode cX11_isSign 12 = .ok (.iload_n 1, 1) := by decide +kernel
theorem dX11_isSign_13 : decode cX11_isSign 13 = .ok (.baload, 1) := by decide +kernel
theorem dX11_isSign_14 : decode cX11_isSign 14 = .ok (.iload_n 2, 1) := by decide +kernel
theorem dX11_isSign_15 : decode cX11_isSign 15 = .ok (.if_icmp .ne 7, 3) := by decide +kernel
theorem dX11_isSign_18 : decode cX11_isSign 18 = .ok (.iconst 1, 1) := by decide +kernel
theorem dX11_isSign_19 : decode cX11_isSign 19 = .ok (.goto 4, 3) := by decide +kernel
theorem dX11_isSign_22 : decode cX11_isSign 22 = .ok (.iconst 0, 1) := by decide +kernel
theorem dX11_isSign_23 : decode cX11_isSign 23 = .ok (.ireturn, 1) := by decide +kernel
theorem dX11_read_0 : decode cX11_read 0 = .ok (.aload_n 0, 1) := by decide +kernel
theorem dX11_read_1 : decode cX11_read 1 = .ok (.iconst 0, 1) := by decide +kernel
theorem dX11_read_2 : decode cX11_read 2 = .ok (.putfield 85, 3) := by decide +kernel
theorem dX11_read_5 : decode cX11_read 5 = .ok (.aload_n 0, 1) := by decide +kernel
theorem dX11_read_6 : decode cX11_read 6 = .ok (.iconst 0, 1) := by decide +kernel
theorem dX11_read_7 : decode cX11_read 7 = .ok (.putfield 89, 3) := by decide +kernel
theorem dX11_read_10 : decode cX11_read 10 = .ok (.iconst 0, 1) := by decide +kernel
theorem dX11_read_11 : decode cX11_read 11 = .ok (.istore_n 1, 1) := by decide +kernel
theorem dX11_read_12 : decode cX11_read 12 = .ok (.aload_n 0, 1) := by decide +kernel
theorem dX11_read_13 : decode cX11_read 13 = .ok (.getfield 89, 3) := by decide +kernel
theorem dX11_read_16 : decode cX11_read 16 = .ok (.iconst 5, 1) := by decide +kernel
theorem dX11_read_17 : decode cX11_read 17 = .ok (.if_icmp .ge 89, 3) := by decide +kernel
theorem dX11_read_20 : decode cX11_read 20 = .ok (.aload_n 0, 1) := by decide +kernel
theorem dX11_read_21 : decode cX11_read 21 = .ok (.iload_n 1, 1) := by decide +kernel
theorem dX11_read_22 : decode cX11_read 22 = .ok (.iconst 1, 1) := by decide +kernel
theorem dX11_read_23 : decode cX11_read 23 = .ok (.bipush 9, 2) := by decide +kernel
theorem dX11_read_25 : decode cX11_read 25 = .ok (.invokevirtual 92, 3) := by decide +kernel
theorem dX11_read_28 : decode cX11_read 28 = .ok (.ifCond .ne 5, 3) := by decide +kernel
theorem dX11_read_31 : decode cX11_read 31 = .ok (.iload_n 1, 1) := by decide +kernel
theorem dX11_read_32 : decode cX11_read 32 = .ok (.ireturn, 1) := by decide +kernel
theorem dX11_read_33 : decode cX11_read 33 = .ok (.aload_n 0, 1) := by decide +kernel
theorem dX11_read_34 : decode cX11_read 34 = .ok (.iload_n 1, 1) := by decide +kernel
theorem dX11_read_35 : decode cX11_read 35 = .ok (.iconst 1, 1) := by decide +kernel
theorem dX11_read_36 : decode cX11_read 36 = .ok (.iadd, 1) := by decide +kernel
theorem dX11_read_37 : decode cX11_read 37 = .ok (.iconst 1, 1) := by decide +kernel
theorem dX11_read_38 : decode cX11_read 38 = .ok (.iconst 5, 1) := by decide +kernel
theorem dX11_read_39 : decode cX11_read 39 = .ok (.invokevirtual 92, 3) := by decide +kernel
theorem dX11_read_42 : decode cX11_read 42 = .ok (.ifCond .ne 7, 3) := by decide +kernel
theorem dX11_read_45 : decode cX11_read 45 = .ok (.iload_n 1, 1) := by decide +kernel
theorem dX11_read_46 : decode cX11_read 46 = .ok (.iconst 1, 1) := by decide +kernel
theorem dX11_read_47 : decode cX11_read 47 = .ok (.iadd, 1) := by decide +kernel
theorem dX11_read_48 : decode cX11_read 48 = .ok (.ireturn, 1) := by decide +kernel
theorem dX11_read_49 : decode cX11_read 49 = .ok (.aload_n 0, 1) := by decide +kernel
theorem dX11_read_50 : decode cX11_read 50 = .ok (.dup, 1) := by decide +kernel
theorem dX11_read_51 : decode cX11_read 51 = .ok (.getfield 89, 3) := by decide +kernel
theorem dX11_read_54 : decode cX11_read 54 = .ok (.iconst 1, 1) := by decide +kernel
theorem dX11_read_55 : decode cX11_read 55 = .ok (.iadd, 1) := by decide +kernel
theorem dX11_read_56 : decode cX11_read 56 = .ok (.putfield 89, 3) := by decide +kernel
theorem dX11_read_59 : decode cX11_read 59 = .ok (.iinc 1 2, 3) := by decide +kernel
theorem dX11_read_62 : decode cX11_read 62 = .ok (.aload_n 0, 1) := by decide +kernel
theorem dX11_read_63 : decode cX11_read 63 = .ok (.iload_n 1, 1) := by decide +kernel
theorem dX11_read_64 : decode cX11_read 64 = .ok (.bipush 59, 2) := by decide +kernel
theorem dX11_read_66 : decode cX11_read 66 = .ok (.invokevirtual 95, 3) := by decide +kernel
theorem dX11_read_69 : decode cX11_read 69 = .ok (.ifCond .eq 11, 3) := by decide +kernel
theorem dX11_read_72 : decode cX11_read 72 = .ok (.aload_n 0, 1) := by decide +kernel
theorem dX11_read_73 : decode cX11_read 73 = .ok (.iload_n 1, 1) := by decide +kernel
theorem dX11_read_74 : decode cX11_read 74 = .ok (.iconst 1, 1) := by decide +kernel
theorem dX11_read_75 : decode cX11_read 75 = .ok (.iadd, 1) := by decide +kernel
theorem dX11_read_76 : decode cX11_read 76 = .ok (.invokevirtual 99, 3) := by decide +kernel
theorem dX11_read_79 : decode cX11_read 79 = .ok (.ireturn, 1) := by decide +kernel
theorem dX11_read_80 : decode cX11_read 80 = .ok (.aload_n 0, 1) := by decide +kernel
theorem dX11_read_81 : decode cX11_read 81 = .ok (.getfield 89, 3) := by decide +kernel
theorem dX11_read_84 : decode cX11_read 84 = .ok (.iconst 5, 1) := by decide +kernel
theorem dX11_read_85 : decode cX11_read 85 = .ok (.if_icmp .eq 13, 3) := by decide +kernel
theorem dX11_read_88 : decode cX11_read 88 = .ok (.aload_n 0, 1) := by decide +kernel
theorem dX11_read_89 : decode cX11_read 89 = .ok (.iload_n 1, 1) := by decide +kernel
theorem dX11_read_90 : decode cX11_read 90 = .ok (.bipush 44, 2) := by decide +kernel
theorem dX11_read_92 : decode cX11_read 92 = .ok (.invokevirtual 95, 3) := by decide +kernel
theorem dX11_read_95 : decode cX11_read 95 = .ok (.ifCond .ne 5, 3) := by decide +kernel
theorem dX11_read_98 : decode cX11_read 98 = .ok (.iload_n 1, 1) := by decide +kernel
theorem dX11_read_99 : decode cX11_read 99 = .ok (.ireturn, 1) := by decide +kernel
theorem dX11_read_100 : decode cX11_read 100 = .ok (.iinc 1 1, 3) := by decide +kernel
theorem dX11_read_103 : decode cX11_read 103 = .ok (.goto (-91), 3) := by decide +kernel
theorem dX11_read_106 : decode cX11_read 106 = .ok (.iload_n 1, 1) := by decide +kernel
theorem dX11_read_107 : decode cX11_read 107 = .ok (.ireturn, 1) := by decide +kernel
theorem dX11_readLimit_0 : decode cX11_readLimit 0 = .ok (.aload_n 0, 1) := by decide +kernel
theorem dX11_readLimit_1 : decode cX11_readLimit 1 = .ok (.iload_n 1, 1) := by decide +kernel
theorem dX11_readLimit_2 : decode cX11_readLimit 2 = .ok (.iconst 0, 1) := by decide +kernel
theorem dX11_readLimit_3 : decode cX11_readLimit 3 = .ok (.bipush 9, 2) := by decide +kernel
theorem dX11_readLimit_5 : decode cX11_readLimit 5 = .ok (.invokevirtual 92, 3) := by decide +kernel
theorem dX11_readLimit_8 : decode cX11_readLimit 8 = .ok (.ifCond .ne 5, 3) := by decide +kernel
theorem dX11_readLimit_11 : decode cX11_readLimit 11 = .ok (.iload_n 1, 1) := by decide +kernel
theorem dX11_readLimit_12 : decode cX11_readLimit 12 = .ok (.ireturn, 1) := by decide +kernel
theorem dX11_readLimit_13 : decode cX11_readLimit 13 = .ok (.aload_n 0, 1) := by decide +kernel
theorem dX11_readLimit_14 : decode cX11_readLimit 14 = .ok (.iload_n 1, 1) := by decide +kernel
theorem dX11_readLimit_15 : decode cX11_readLimit 15 = .ok (.iconst 1, 1) := by decide +kernel
theorem dX11_readLimit_16 : decode cX11_readLimit 16 = .ok (.iadd, 1) := by decide +kernel
theorem dX11_readLimit_17 : decode cX11_readLimit 17 = .ok (.aload_n 0, 1) := by decide +kernel
theorem dX11_readLimit_18 : decode cX11_readLimit 18 = .ok (.getfield 81, 3) := by decide +kernel
theorem dX11_readLimit_21 : decode cX11_readLimit 21 = .ok (.if_icmp .ne 7, 3) := by decide +kernel
theorem dX11_readLimit_24 : decode cX11_readLimit 24 = .ok (.iconst 1, 1) := by decide +kernel
theorem dX11_readLimit_25 : decode cX11_readLimit 25 = .ok (.goto 4, 3) := by decide +kernel
theorem dX11_readLimit_28 : decode cX11_readLimit 28 = .ok (.iconst 0, 1) := by decide +kernel
theorem dX11_readLimit_29 : decode cX11_readLimit 29 = .ok (.putfield 85, 3) := by decide +kernel
theorem dX11_readLimit_32 : decode cX11_readLimit 32 = .ok (.iload_n 1, 1) := by decide +kernel
theorem dX11_readLimit_33 : decode cX11_readLimit 33 = .ok (.iconst 1, 1) := by decide +kernel
theorem dX11_readLimit_34 : decode cX11_readLimit 34 = .ok (.iadd, 1) := by decide +kernel
theorem dX11_readLimit_35 : decode cX11_readLimit 35 = .ok (.ireturn, 1) := by decide +kernel
theorem dX11_fault_0 : decode cX11_fault 0 = .ok (.aload_n 0, 1) := by decide +kernel
theorem dX11_fault_1 : decode cX11_fault 1 = .ok (.invokevirtual 103, 3) := by decide +kernel
theorem dX11_fault_4 : decode cX11_fault 4 = .ok (.ireturn, 1) := by decide +kernel
theorem dX11_school_0 : decode cX11_school 0 = .ok (.aload_n 0, 1) := by decide +kernel
theorem dX11_school_1 : decode cX11_school 1 = .ok (.invokevirtual 103, 3) := by decide +kernel
theorem dX11_school_4 : decode cX11_school 4 = .ok (.istore_n 1, 1) := by decide +kernel
theorem dX11_school_5 : decode cX11_school 5 = .ok (.aload_n 0, 1) := by decide +kernel
theorem dX11_school_6 : decode cX11_school 6 = .ok (.getfield 85, 3) := by decide +kernel
theorem dX11_school_9 : decode cX11_school 9 = .ok (.ifCond .ne 6, 3) := by decide +kernel
theorem dX11_school_12 : decode cX11_school 12 = .ok (.bipush (-103), 2) := by decide +kernel
theorem dX11_school_14 : decode cX11_school 14 = .ok (.ireturn, 1) := by decide +kernel
theorem dX11_school_15 : decode cX11_school 15 = .ok (.aload_n 0, 1) := by decide +kernel
theorem dX11_school_16 : decode cX11_school 16 = .ok (.aload_n 0, 1) := by decide +kernel
theorem dX11_school_17 : decode cX11_school 17 = .ok (.getfield 89, 3) := by decide +kernel
theorem dX11_school_20 : decode cX11_school 20 = .ok (.putfield 107, 3) := by decide +kernel
theorem dX11_school_23 : decode cX11_school 23 = .ok (.aload_n 0, 1) := by decide +kernel
theorem dX11_school_24 : decode cX11_school 24 = .ok (.aload_n 0, 1) := by decide +kernel
theorem dX11_school_25 : decode cX11_school 25 = .ok (.getfield 43, 3) := by decide +kernel
theorem dX11_school_28 : decode cX11_school 28 = .ok (.iload_n 1, 1) := by decide +kernel
theorem dX11_school_29 : decode cX11_school 29 = .ok (.iconst 1, 1) := by decide +kernel
theorem dX11_school_30 : decode cX11_school 30 = .ok (.isub, 1) := by decide +kernel
theorem dX11_school_31 : decode cX11_school 31 = .ok (.baload, 1) := by decide +kernel
theorem dX11_school_32 : decode cX11_school 32 = .ok (.bipush 48, 2) := by decide +kernel
theorem dX11_school_34 : decode cX11_school 34 = .ok (.isub, 1) := by decide +kernel
theorem dX11_school_35 : decode cX11_school 35 = .ok (.putfield 110, 3) := by decide +kernel
theorem dX11_school_38 : decode cX11_school 38 = .ok (.iconst 0, 1) := by decide +kernel
theorem dX11_school_39 : decode cX11_school 39 = .ok (.istore_n 2, 1) := by decide +kernel
theorem dX11_school_40 : decode cX11_school 40 = .ok (.iload_n 2, 1) := by decide +kernel
theorem dX11_school_41 : decode cX11_school 41 = .ok (.aload_n 0, 1) := by decide +kernel
theorem dX11_school_42 : decode cX11_school 42 = .ok (.getfield 107, 3) := by decide +kernel
theorem dX11_school_45 : decode cX11_school 45 = .ok (.if_icmp .ge 45, 3) := by decide +kernel
theorem dX11_school_48 : decode cX11_school 48 = .ok (.aload_n 0, 1) := by decide +kernel
theorem dX11_school_49 : decode cX11_school 49 = .ok (.getfield 7, 3) := by decide +kernel
theorem dX11_school_52 : decode cX11_school 52 = .ok (.iload_n 2, 1) := by decide +kernel
theorem dX11_school_53 : decode cX11_school 53 = .ok (.aload_n 0, 1) := by decide +kernel
theorem dX11_school_54 : decode cX11_school 54 = .ok (.getfield 43, 3) := by decide +kernel
theorem dX11_school_57 : decode cX11_school 57 = .ok (.iconst 3, 1) := by decide +kernel
theorem dX11_school_58 : decode cX11_school 58 = .ok (.iload_n 2, 1) := by decide +kernel
theorem dX11_school_59 : decode cX11_school 59 = .ok (.imul, 1) := by decide +kernel
theorem dX11_school_60 : decode cX11_school 60 = .ok (.baload, 1) := by decide +kernel
theorem dX11_school_61 : decode cX11_school 61 = .ok (.bipush 48, 2) := by decide +kernel
theorem dX11_school_63 : decode cX11_school 63 = .ok (.isub, 1) := by decide +kernel
theorem dX11_school_64 : decode cX11_school 64 = .ok (.iastore, 1) := by decide +kernel
theorem dX11_school_65 : decode cX11_school 65 = .ok (.aload_n 0, 1) := by decide +kernel
theorem dX11_school_66 : decode cX11_school 66 = .ok (.getfield 13, 3) := by decide +kernel
theorem dX11_school_69 : decode cX11_school 69 = .ok (.iload_n 2, 1) := by decide +kernel
theorem dX11_school_70 : decode cX11_school 70 = .ok (.aload_n 0, 1) := by decide +kernel
theorem dX11_school_71 : decode cX11_school 71 = .ok (.getfield 43, 3) := by decide +kernel
theorem dX11_school_74 : decode cX11_school 74 = .ok (.iconst 3, 1) := by decide +kernel
theorem dX11_school_75 : decode cX11_school 75 = .ok (.iload_n 2, 1) := by decide +kernel
theorem dX11_school_76 : decode cX11_school 76 = .ok (.imul, 1) := by decide +kernel
theorem dX11_school_77 : decode cX11_school 77 = .ok (.iconst 1, 1) := by decide +kernel
theorem dX11_school_78 : decode cX11_school 78 = .ok (.iadd, 1) := by decide +kernel
theorem dX11_school_79 : decode cX11_school 79 = .ok (.baload, 1) := by decide +kernel
theorem dX11_school_80 : decode cX11_school 80 = .ok (.bipush 48, 2) := by decide +kernel
theorem dX11_school_82 : decode cX11_school 82 = .ok (.isub, 1) := by decide +kernel
theorem dX11_school_83 : decode cX11_school 83 = .ok (.iastore, 1) := by decide +kernel
theorem dX11_school_84 : decode cX11_school 84 = .ok (.iinc 2 1, 3) := by decide +kernel
theorem dX11_school_87 : decode cX11_school 87 = .ok (.goto (-47), 3) := by decide +kernel
theorem dX11_school_90 : decode cX11_school 90 = .ok (.iconst 0, 1) := by decide +kernel
theorem dX11_school_91 : decode cX11_school 91 = .ok (.istore_n 2, 1) := by decide +kernel
theorem dX11_school_92 : decode cX11_school 92 = .ok (.iload_n 2, 1) := by decide +kernel
theorem dX11_school_93 : decode cX11_school 93 = .ok (.iconst 3, 1) := by decide +kernel
theorem dX11_school_94 : decode cX11_school 94 = .ok (.if_icmp .ge 16, 3) := by decide +kernel
theorem dX11_school_97 : decode cX11_school 97 = .ok (.aload_n 0, 1) := by decide +kernel
theorem dX11_school_98 : decode cX11_school 98 = .ok (.getfield 16, 3) := by decide +kernel
theorem dX11_school_101 : decode cX11_school 101 = .ok (.iload_n 2, 1) := by decide +kernel
theorem dX11_school_102 : decode cX11_school 102 = .ok (.iconst 0, 1) := by decide +kernel
theorem dX11_school_103 : decode cX11_school 103 = .ok (.iastore, 1) := by decide +kernel
theorem dX11_school_104 : decode cX11_school 104 = .ok (.iinc 2 1, 3) := by decide +kernel
theorem dX11_school_107 : decode cX11_school 107 = .ok (.goto (-15), 3) := by decide +kernel
theorem dX11_school_110 : decode cX11_school 110 = .ok (.aload_n 0, 1) := by decide +kernel
theorem dX11_school_111 : decode cX11_school 111 = .ok (.dup, 1) := by decide +kernel
theorem dX11_school_112 : decode cX11_school 112 = .ok (.getfield 113, 3) := by decide +kernel
theorem dX11_school_115 : decode cX11_school 115 = .ok (.iconst 1, 1) := by decide +kernel
theorem dX11_school_116 : decode cX11_school 116 = .ok (.iadd, 1) := by decide +kernel
theorem dX11_school_117 : decode cX11_school 117 = .ok (.putfield 113, 3) := by decide +kernel
theorem dX11_school_120 : decode cX11_school 120 = .ok (.aload_n 0, 1) := by decide +kernel
theorem dX11_school_121 : decode cX11_school 121 = .ok (.iconst 0, 1) := by decide +kernel
theorem dX11_school_122 : decode cX11_school 122 = .ok (.putfield 116, 3) := by decide +kernel
theorem dX11_school_125 : decode cX11_school 125 = .ok (.aload_n 0, 1) := by decide +kernel
theorem dX11_school_126 : decode cX11_school 126 = .ok (.iconst 0, 1) := by decide +kernel
theorem dX11_school_127 : decode cX11_school 127 = .ok (.putfield 119, 3) := by decide +kernel
theorem dX11_school_130 : decode cX11_school 130 = .ok (.aload_n 0, 1) := by decide +kernel
theorem dX11_school_131 : decode cX11_school 131 = .ok (.iconst 0, 1) := by decide +kernel
theorem dX11_school_132 : decode cX11_school 132 = .ok (.putfield 81, 3) := by decide +kernel
theorem dX11_school_135 : decode cX11_school 135 = .ok (.aload_n 0, 1) := by decide +kernel
theorem dX11_school_136 : decode cX11_school 136 = .ok (.getfield 107, 3) := by decide +kernel
theorem dX11_school_139 : decode cX11_school 139 = .ok (.ireturn, 1) := by decide +kernel
theorem dX11_isLesson_0 : decode cX11_isLesson 0 = .ok (.iload_n 1, 1) := by decide +kernel
theorem dX11_isLesson_1 : decode cX11_isLesson 1 = .ok (.iconst 0, 1) := by decide +kernel
theorem dX11_isLesson_2 : decode cX11_isLesson 2 = .ok (.aload_n 0, 1) := by decide +kernel
theorem dX11_isLesson_3 : decode cX11_isLesson 3 = .ok (.getfield 107, 3) := by decide +kernel
theorem dX11_isLesson_6 : decode cX11_isLesson 6 = .ok (.iconst 1, 1) := by decide +kernel
theorem dX11_isLesson_7 : decode cX11_isLesson 7 = .ok (.isub, 1) := by decide +kernel
theorem dX11_isLesson_8 : decode cX11_isLesson 8 = .ok (.invokestatic 77, 3) := by decide +kernel
theorem dX11_isLesson_11 : decode cX11_isLesson 11 = .ok (.ireturn, 1) := by decide +kernel
theorem dX11_isBoy_0 : decode cX11_isBoy 0 = .ok (.aload_n 0, 1) := by decide +kernel
theorem dX11_isBoy_1 : decode cX11_isBoy 1 = .ok (.getfield 107, 3) := by decide +kernel
theorem dX11_isBoy_4 : decode cX11_isBoy 4 = .ok (.ifCond .le 16, 3) := by decide +kernel
theorem dX11_isBoy_7 : decode cX11_isBoy 7 = .ok (.iload_n 1, 1) := by decide +kernel
theorem dX11_isBoy_8 : decode cX11_isBoy 8 = .ok (.iconst 0, 1) := by decide +kernel
theorem dX11_isBoy_9 : decode cX11_isBoy 9 = .ok (.iconst 2, 1) := by decide +kernel
theorem dX11_isBoy_10 : decode cX11_isBoy 10 = .ok (.invokestatic 77, 3) := by decide +kernel
theorem dX11_isBoy_13 : decode cX11_isBoy 13 = .ok (.ifCond .eq 7, 3) := by decide +kernel
theorem dX11_isBoy_16 : decode cX11_isBoy 16 = .ok (.iconst 1, 1) := by decide +kernel
theorem dX11_isBoy_17 : decode cX11_isBoy 17 = .ok (.goto 4, 3) := by decide +kernel
theorem dX11_isBoy_20 : decode cX11_isBoy 20 = .ok (.iconst 0, 1) := by decide +kernel
theorem dX11_isBoy_21 : decode cX11_isBoy 21 = .ok (.ireturn, 1) := by decide +kernel
theorem dX11_isPrince_0 : decode cX11_isPrince 0 = .ok (.iload_n 1, 1) := by decide +kernel
theorem dX11_isPrince_1 : decode cX11_isPrince 1 = .ok (.iconst 0, 1) := by decide +kernel
theorem dX11_isPrince_2 : decode cX11_isPrince 2 = .ok (.aload_n 0, 1) := by decide +kernel
theorem dX11_isPrince_3 : decode cX11_isPrince 3 = .ok (.getfield 116, 3) := by decide +kernel
theorem dX11_isPrince_6 : decode cX11_isPrince 6 = .ok (.iconst 1, 1) := by decide +kernel
theorem dX11_isPrince_7 : decode cX11_isPrince 7 = .ok (.isub, 1) := by decide +kernel
theorem dX11_isPrince_8 : decode cX11_isPrince 8 = .ok (.invokestatic 77, 3) := by decide +kernel
theorem dX11_isPrince_11 : decode cX11_isPrince 11 = .ok (.ireturn, 1) := by decide +kernel
theorem dX11_learntBy_0 : decode cX11_learntBy 0 = .ok (.iconst 0, 1) := by decide +kernel
theorem dX11_learntBy_1 : decode cX11_learntBy 1 = .ok (.istore_n 2, 1) := by decide +kernel
theorem dX11_learntBy_2 : decode cX11_learntBy 2 = .ok (.iconst 0, 1) := by decide +kernel
theorem dX11_learntBy_3 : decode cX11_learntBy 3 = .ok (.istore_n 3, 1) := by decide +kernel
theorem dX11_learntBy_4 : decode cX11_learntBy 4 = .ok (.iload_n 3, 1) := by decide +kernel
theorem dX11_learntBy_5 : decode cX11_learntBy 5 = .ok (.aload_n 0, 1) := by decide +kernel
theorem dX11_learntBy_6 : decode cX11_learntBy 6 = .ok (.getfield 116, 3) := by decide +kernel
theorem dX11_learntBy_9 : decode cX11_learntBy 9 = .ok (.if_icmp .ge 32, 3) := by decide +kernel
theorem dX11_learntBy_12 : decode cX11_learntBy 12 = .ok (.iload_n 2, 1) := by decide +kernel
theorem dX11_learntBy_13 : decode cX11_learntBy 13 = .ok (.aload_n 0, 1) := by decide +kernel
theorem dX11_learntBy_14 : decode cX11_learntBy 14 = .ok (.getfield 28, 3) := by decide +kernel
theorem dX11_learntBy_17 : decode cX11_learntBy 17 = .ok (.iload_n 3, 1) := by decide +kernel
theorem dX11_learntBy_18 : decode cX11_learntBy 18 = .ok (.iaload, 1) := by decide +kernel
theorem dX11_learntBy_19 : decode cX11_learntBy 19 = .ok (.iload_n 1, 1) := by decide +kernel
theorem dX11_learntBy_20 : decode cX11_learntBy 20 = .ok (.invokestatic 122, 3) := by decide +kernel
theorem dX11_learntBy_23 : decode cX11_learntBy 23 = .ok (.ifCond .eq 9, 3) := by decide +kernel
theorem dX11_learntBy_26 : decode cX11_learntBy 26 = .ok (.iconst 1, 1) := by decide +kernel
theorem dX11_learntBy_27 : decode cX11_learntBy 27 = .ok (.iload_n 3, 1) := by decide +kernel
theorem dX11_learntBy_28 : decode cX11_learntBy 28 = .ok (.ishl, 1) := by decide +kernel
theorem dX11_learntBy_29 : decode cX11_learntBy 29 = .ok (.goto 4, 3) := by decide +kernel
theorem dX11_learntBy_32 : decode cX11_learntBy 32 = .ok (.iconst 0, 1) := by decide +kernel
theorem dX11_learntBy_33 : decode cX11_learntBy 33 = .ok (.ior, 1) := by decide +kernel
theorem dX11_learntBy_34 : decode cX11_learntBy 34 = .ok (.istore_n 2, 1) := by decide +kernel
theorem dX11_learntBy_35 : decode cX11_learntBy 35 = .ok (.iinc 3 1, 3) := by decide +kernel
theorem dX11_learntBy_38 : decode cX11_learntBy 38 = .ok (.goto (-34), 3) := by decide +kernel
theorem dX11_learntBy_41 : decode cX11_learntBy 41 = .ok (.iload_n 2, 1) := by decide +kernel
theorem dX11_learntBy_42 : decode cX11_learntBy 42 = .ok (.ireturn, 1) := by decide +kernel
theorem dX11_lessonNow_0 : decode cX11_lessonNow 0 = .ok (.iload_n 2, 1) := by decide +kernel
theorem dX11_lessonNow_1 : decode cX11_lessonNow 1 = .ok (.ifCond .ne 12, 3) := by decide +kernel
theorem dX11_lessonNow_4 : decode cX11_lessonNow 4 = .ok (.aload_n 0, 1) := by decide +kernel
theorem dX11_lessonNow_5 : decode cX11_lessonNow 5 = .ok (.getfield 7, 3) := by decide +kernel
theorem dX11_lessonNow_8 : decode cX11_lessonNow 8 = .ok (.iload_n 1, 1) := by decide +kernel
theorem dX11_lessonNow_9 : decode cX11_lessonNow 9 = .ok (.iaload, 1) := by decide +kernel
theorem dX11_lessonNow_10 : decode cX11_lessonNow 10 = .ok (.goto 22, 3) := by decide +kernel
theorem dX11_lessonNow_13 : decode cX11_lessonNow 13 = .ok (.iload_n 2, 1) := by decide +kernel
theorem dX11_lessonNow_14 : decode cX11_lessonNow 14 = .ok (.iconst 1, 1) := by decide +kernel
theorem dX11_lessonNow_15 : decode cX11_lessonNow 15 = .ok (.if_icmp .ne 12, 3) := by decide +kernel
theorem dX11_lessonNow_18 : decode cX11_lessonNow 18 = .ok (.aload_n 0, 1) := by decide +kernel
theorem dX11_lessonNow_19 : decode cX11_lessonNow 19 = .ok (.getfield 13, 3) := by decide +kernel
theorem dX11_lessonNow_22 : decode cX11_lessonNow 22 = .ok (.iload_n 1, 1) := by decide +kernel
theorem dX11_lessonNow_23 : decode cX11_lessonNow 23 = .ok (.iaload, 1) := by decide +kernel
theorem dX11_lessonNow_24 : decode cX11_lessonNow 24 = .ok (.goto 8, 3) := by decide +kernel
theorem dX11_lessonNow_27 : decode cX11_lessonNow 27 = .ok (.aload_n 0, 1) := by decide +kernel
theorem dX11_lessonNow_28 : decode cX11_lessonNow 28 = .ok (.iload_n 1, 1) := by decide +kernel
theorem dX11_lessonNow_29 : decode cX11_lessonNow 29 = .ok (.invokevirtual 125, 3) := by decide +kernel
theorem dX11_lessonNow_32 : decode cX11_lessonNow 32 = .ok (.ireturn, 1) := by decide +kernel
theorem dX11_lesson_0 : decode cX11_lesson 0 = .ok (.aload_n 0, 1) := by decide +kernel
theorem dX11_lesson_1 : decode cX11_lesson 1 = .ok (.iload_n 1, 1) := by decide +kernel
theorem dX11_lesson_2 : decode cX11_lesson 2 = .ok (.invokevirtual 128, 3) := by decide +kernel
theorem dX11_lesson_5 : decode cX11_lesson 5 = .ok (.ifCond .ne 8, 3) := by decide +kernel
theorem dX11_lesson_8 : decode cX11_lesson 8 = .ok (.bipush (-101), 2) := by decide +kernel
theorem dX11_lesson_10 : decode cX11_lesson 10 = .ok (.goto 23, 3) := by decide +kernel
theorem dX11_lesson_13 : decode cX11_lesson 13 = .ok (.iload_n 2, 1) := by decide +kernel
theorem dX11_lesson_14 : decode cX11_lesson 14 = .ok (.iconst 0, 1) := by decide +kernel
theorem dX11_lesson_15 : decode cX11_lesson 15 = .ok (.iconst 2, 1) := by decide +kernel
theorem dX11_lesson_16 : decode cX11_lesson 16 = .ok (.invokestatic 77, 3) := by decide +kernel
theorem dX11_lesson_19 : decode cX11_lesson 19 = .ok (.ifCond .eq 12, 3) := by decide +kernel
theorem dX11_lesson_22 : decode cX11_lesson 22 = .ok (.aload_n 0, 1) := by decide +kernel
theorem dX11_lesson_23 : decode cX11_lesson 23 = .ok (.iload_n 1, 1) := by decide +kernel
theorem dX11_lesson_24 : decode cX11_lesson 24 = .ok (.iload_n 2, 1) := by decide +kernel
theorem dX11_lesson_25 : decode cX11_lesson 25 = .ok (.invokevirtual 132, 3) := by decide +kernel
theorem dX11_lesson_28 : decode cX11_lesson 28 = .ok (.goto 5, 3) := by decide +kernel
theorem dX11_lesson_31 : decode cX11_lesson 31 = .ok (.bipush (-102), 2) := by decide +kernel
theorem dX11_lesson_33 : decode cX11_lesson 33 = .ok (.ireturn, 1) := by decide +kernel
theorem dX11_stripes_0 : decode cX11_stripes 0 = .ok (.aload_n 0, 1) := by decide +kernel
theorem dX11_stripes_1 : decode cX11_stripes 1 = .ok (.iload_n 1, 1) := by decide +kernel
theorem dX11_stripes_2 : decode cX11_stripes 2 = .ok (.invokevirtual 136, 3) := by decide +kernel
theorem dX11_stripes_5 : decode cX11_stripes 5 = .ok (.ifCond .eq 12, 3) := by decide +kernel
theorem dX11_stripes_8 : decode cX11_stripes 8 = .ok (.aload_n 0, 1) := by decide +kernel
theorem dX11_stripes_9 : decode cX11_stripes 9 = .ok (.getfield 16, 3) := by decide +kernel
theorem dX11_stripes_12 : decode cX11_stripes 12 = .ok (.iload_n 1, 1) := by decide +kernel
theorem dX11_stripes_13 : decode cX11_stripes 13 = .ok (.iaload, 1) := by decide +kernel
theorem dX11_stripes_14 : decode cX11_stripes 14 = .ok (.goto 5, 3) := by decide +kernel
theorem dX11_stripes_17 : decode cX11_stripes 17 = .ok (.bipush (-101), 2) := by decide +kernel
theorem dX11_stripes_19 : decode cX11_stripes 19 = .ok (.ireturn, 1) := by decide +kernel
theorem dX11_prince_0 : decode cX11_prince 0 = .ok (.iload_n 1, 1) := by decide +kernel
theorem dX11_prince_1 : decode cX11_prince 1 = .ok (.iconst 0, 1) := by decide +kernel
theorem dX11_prince_2 : decode cX11_prince 2 = .ok (.iconst 4, 1) := by decide +kernel
theorem dX11_prince_3 : decode cX11_prince 3 = .ok (.invokestatic 77, 3) := by decide +kernel
theorem dX11_prince_6 : decode cX11_prince 6 = .ok (.ifCond .eq 13, 3) := by decide +kernel
theorem dX11_prince_9 : decode cX11_prince 9 = .ok (.iload_n 2, 1) := by decide +kernel
theorem dX11_prince_10 : decode cX11_prince 10 = .ok (.iconst 0, 1) := by decide +kernel
theorem dX11_prince_11 : decode cX11_prince 11 = .ok (.bipush 9, 2) := by decide +kernel
theorem dX11_prince_13 : decode cX11_prince 13 = .ok (.invokestatic 77, 3) := by decide +kernel
theorem dX11_prince_16 : decode cX11_prince 16 = .ok (.ifCond .ne 6, 3) := by decide +kernel
theorem dX11_prince_19 : decode cX11_prince 19 = .ok (.bipush (-102), 2) := by decide +kernel
theorem dX11_prince_21 : decode cX11_prince 21 = .ok (.ireturn, 1) := by decide +kernel
theorem dX11_prince_22 : decode cX11_prince 22 = .ok (.aload_n 0, 1) := by decide +kernel
theorem dX11_prince_23 : decode cX11_prince 23 = .ok (.getfield 107, 3) := by decide +kernel
theorem dX11_prince_26 : decode cX11_prince 26 = .ok (.ifCond .ne 6, 3) := by decide +kernel
theorem dX11_prince_29 : decode cX11_prince 29 = .ok (.bipush (-103), 2) := by decide +kernel
theorem dX11_prince_31 : decode cX11_prince 31 = .ok (.ireturn, 1) := by decide +kernel
theorem dX11_prince_32 : decode cX11_prince 32 = .ok (.aload_n 0, 1) := by decide +kernel
theorem dX11_prince_33 : decode cX11_prince 33 = .ok (.getfield 116, 3) := by decide +kernel
theorem dX11_prince_36 : decode cX11_prince 36 = .ok (.iconst 3, 1) := by decide +kernel
theorem dX11_prince_37 : decode cX11_prince 37 = .ok (.if_icmp .ne 6, 3) := by decide +kernel
theorem dX11_prince_40 : decode cX11_prince 40 = .ok (.bipush (-104), 2) := by decide +kernel
theorem dX11_prince_42 : decode cX11_prince 42 = .ok (.ireturn, 1) := by decide +kernel
theorem dX11_prince_43 : decode cX11_prince 43 = .ok (.aload_n 0, 1) := by decide +kernel
theorem dX11_prince_44 : decode cX11_prince 44 = .ok (.getfield 116, 3) := by decide +kernel
theorem dX11_prince_47 : decode cX11_prince 47 = .ok (.istore_n 3, 1) := by decide +kernel
theorem dX11_prince_48 : decode cX11_prince 48 = .ok (.aload_n 0, 1) := by decide +kernel
theorem dX11_prince_49 : decode cX11_prince 49 = .ok (.getfield 19, 3) := by decide +kernel
theorem dX11_prince_52 : decode cX11_prince 52 = .ok (.iload_n 3, 1) := by decide +kernel
theorem dX11_prince_53 : decode cX11_prince 53 = .ok (.iload_n 1, 1) := by decide +kernel
theorem dX11_prince_54 : decode cX11_prince 54 = .ok (.iastore, 1) := by decide +kernel
theorem dX11_prince_55 : decode cX11_prince 55 = .ok (.aload_n 0, 1) := by decide +kernel
theorem dX11_prince_56 : decode cX11_prince 56 = .ok (.getfield 22, 3) := by decide +kernel
theorem dX11_prince_59 : decode cX11_prince 59 = .ok (.iload_n 3, 1) := by decide +kernel
theorem dX11_prince_60 : decode cX11_prince 60 = .ok (.iload_n 2, 1) := by decide +kernel
theorem dX11_prince_61 : decode cX11_prince 61 = .ok (.iastore, 1) := by decide +kernel
theorem dX11_prince_62 : decode cX11_prince 62 = .ok (.aload_n 0, 1) := by decide +kernel
theorem dX11_prince_63 : decode cX11_prince 63 = .ok (.getfield 25, 3) := by decide +kernel
theorem dX11_prince_66 : decode cX11_prince 66 = .ok (.iload_n 3, 1) := by decide +kernel
theorem dX11_prince_67 : decode cX11_prince 67 = .ok (.iload_n 3, 1) := by decide +kernel
theorem dX11_prince_68 : decode cX11_prince 68 = .ok (.iastore, 1) := by decide +kernel
theorem dX11_prince_69 : decode cX11_prince 69 = .ok (.aload_n 0, 1) := by decide +kernel
theorem dX11_prince_70 : decode cX11_prince 70 = .ok (.getfield 28, 3) := by decide +kernel
theorem dX11_prince_73 : decode cX11_prince 73 = .ok (.iload_n 3, 1) := by decide +kernel
theorem dX11_prince_74 : decode cX11_prince 74 = .ok (.iconst 0, 1) := by decide +kernel
theorem dX11_prince_75 : decode cX11_prince 75 = .ok (.iastore, 1) := by decide +kernel
theorem dX11_prince_76 : decode cX11_prince 76 = .ok (.iconst 0, 1) := by decide +kernel
theorem dX11_prince_77 : decode cX11_prince 77 = .ok (.istore 4, 2) := by decide +kernel
theorem dX11_prince_79 : decode cX11_prince 79 = .ok (.iload 4, 2) := by decide +kernel
theorem dX11_prince_81 : decode cX11_prince 81 = .ok (.iconst 3, 1) := by decide +kernel
theorem dX11_prince_82 : decode cX11_prince 82 = .ok (.if_icmp .ge 21, 3) := by decide +kernel
theorem dX11_prince_85 : decode cX11_prince 85 = .ok (.aload_n 0, 1) := by decide +kernel
theorem dX11_prince_86 : decode cX11_prince 86 = .ok (.getfield 31, 3) := by decide +kernel
theorem dX11_prince_89 : decode cX11_prince 89 = .ok (.iconst 3, 1) := by decide +kernel
theorem dX11_prince_90 : decode cX11_prince 90 = .ok (.iload_n 3, 1) := by decide +kernel
theorem dX11_prince_91 : decode cX11_prince 91 = .ok (.imul, 1) := by decide +kernel
theorem dX11_prince_92 : decode cX11_prince 92 = .ok (.iload 4, 2) := by decide +kernel
theorem dX11_prince_94 : decode cX11_prince 94 = .ok (.iadd, 1) := by decide +kernel
theorem dX11_prince_95 : decode cX11_prince 95 = .ok (.iconst 5, 1) := by decide +kernel
theorem dX11_prince_96 : decode cX11_prince 96 = .ok (.iastore, 1) := by decide +kernel
theorem dX11_prince_97 : decode cX11_prince 97 = .ok (.iinc 4 1, 3) := by decide +kernel
theorem dX11_prince_100 : decode cX11_prince 100 = .ok (.goto (-21), 3) := by decide +kernel
theorem dX11_prince_103 : decode cX11_prince 103 = .ok (.aload_n 0, 1) := by decide +kernel
theorem dX11_prince_104 : decode cX11_prince 104 = .ok (.dup, 1) := by decide +kernel
theorem dX11_prince_105 : decode cX11_prince 105 = .ok (.getfield 116, 3) := by decide +kernel
theorem dX11_prince_108 : decode cX11_prince 108 = .ok (.iconst 1, 1) := by decide +kernel
theorem dX11_prince_109 : decode cX11_prince 109 = .ok (.iadd, 1) := by decide +kernel
theorem dX11_prince_110 : decode cX11_prince 110 = .ok (.putfield 116, 3) := by decide +kernel
theorem dX11_prince_113 : decode cX11_prince 113 = .ok (.iload_n 3, 1) := by decide +kernel
theorem dX11_prince_114 : decode cX11_prince 114 = .ok (.ireturn, 1) := by decide +kernel
theorem dX11_feels_0 : decode cX11_feels 0 = .ok (.iload_n 1, 1) := by decide +kernel
theorem dX11_feels_1 : decode cX11_feels 1 = .ok (.iconst 5, 1) := by decide +kernel
theorem dX11_feels_2 : decode cX11_feels 2 = .ok (.if_icmp .ge 7, 3) := by decide +kernel
theorem dX11_feels_5 : decode cX11_feels 5 = .ok (.iconst 0, 1) := by decide +kernel
theorem dX11_feels_6 : decode cX11_feels 6 = .ok (.goto 4, 3) := by decide +kernel
theorem dX11_feels_9 : decode cX11_feels 9 = .ok (.iload_n 1, 1) := by decide +kernel
theorem dX11_feels_10 : decode cX11_feels 10 = .ok (.istore_n 2, 1) := by decide +kernel
theorem dX11_feels_11 : decode cX11_feels 11 = .ok (.iload_n 0, 1) := by decide +kernel
theorem dX11_feels_12 : decode cX11_feels 12 = .ok (.tableswitch 47 1 4 #[32, 34, 39, 43], 32) := by decide +kernel
theorem dX11_feels_44 : decode cX11_feels 44 = .ok (.iload_n 2, 1) := by decide +kernel
theorem dX11_feels_45 : decode cX11_feels 45 = .ok (.ireturn, 1) := by decide +kernel
theorem dX11_feels_46 : decode cX11_feels 46 = .ok (.bipush 9, 2) := by decide +kernel
theorem dX11_feels_48 : decode cX11_feels 48 = .ok (.iload_n 1, 1) := by decide +kernel
theorem dX11_feels_49 : decode cX11_feels 49 = .ok (.isub, 1) := by decide +kernel
theorem dX11_feels_50 : decode cX11_feels 50 = .ok (.ireturn, 1) := by decide +kernel
theorem dX11_feels_51 : decode cX11_feels 51 = .ok (.iload_n 1, 1) := by decide +kernel
theorem dX11_feels_52 : decode cX11_feels 52 = .ok (.iconst 2, 1) := by decide +kernel
theorem dX11_feels_53 : decode cX11_feels 53 = .ok (.idiv, 1) := by decide +kernel
theorem dX11_feels_54 : decode cX11_feels 54 = .ok (.ireturn, 1) := by decide +kernel
theorem dX11_feels_55 : decode cX11_feels 55 = .ok (.iload_n 2, 1) := by decide +kernel
theorem dX11_feels_56 : decode cX11_feels 56 = .ok (.iconst 2, 1) := by decide +kernel
theorem dX11_feels_57 : decode cX11_feels 57 = .ok (.iadd, 1) := by decide +kernel
theorem dX11_feels_58 : decode cX11_feels 58 = .ok (.ireturn, 1) := by decide +kernel
theorem dX11_feels_59 : decode cX11_feels 59 = .ok (.iload_n 1, 1) := by decide +kernel
theorem dX11_feels_60 : decode cX11_feels 60 = .ok (.ireturn, 1) := by decide +kernel
theorem dX11_feelsNow_0 : decode cX11_feelsNow 0 = .ok (.aload_n 0, 1) := by decide +kernel
theorem dX11_feelsNow_1 : decode cX11_feelsNow 1 = .ok (.getfield 19, 3) := by decide +kernel
theorem dX11_feelsNow_4 : decode cX11_feelsNow 4 = .ok (.iload_n 1, 1) := by decide +kernel
theorem dX11_feelsNow_5 : decode cX11_feelsNow 5 = .ok (.iaload, 1) := by decide +kernel
theorem dX11_feelsNow_6 : decode cX11_feelsNow 6 = .ok (.aload_n 0, 1) := by decide +kernel
theorem dX11_feelsNow_7 : decode cX11_feelsNow 7 = .ok (.getfield 31, 3) := by decide +kernel
theorem dX11_feelsNow_10 : decode cX11_feelsNow 10 = .ok (.iconst 3, 1) := by decide +kernel
theorem dX11_feelsNow_11 : decode cX11_feelsNow 11 = .ok (.iload_n 1, 1) := by decide +kernel
theorem dX11_feelsNow_12 : decode cX11_feelsNow 12 = .ok (.imul, 1) := by decide +kernel
theorem dX11_feelsNow_13 : decode cX11_feelsNow 13 = .ok (.aload_n 0, 1) := by decide +kernel
theorem dX11_feelsNow_14 : decode cX11_feelsNow 14 = .ok (.getfield 25, 3) := by decide +kernel
theorem dX11_feelsNow_17 : decode cX11_feelsNow 17 = .ok (.iload_n 1, 1) := by decide +kernel
theorem dX11_feelsNow_18 : decode cX11_feelsNow 18 = .ok (.iaload, 1) := by decide +kernel
theorem dX11_feelsNow_19 : decode cX11_feelsNow 19 = .ok (.iadd, 1) := by decide +kernel
theorem dX11_feelsNow_20 : decode cX11_feelsNow 20 = .ok (.iaload, 1) := by decide +kernel
theorem dX11_feelsNow_21 : decode cX11_feelsNow 21 = .ok (.invokestatic 139, 3) := by decide +kernel
theorem dX11_feelsNow_24 : decode cX11_feelsNow 24 = .ok (.ireturn, 1) := by decide +kernel
theorem dX11_tenthsBy_0 : decode cX11_tenthsBy 0 = .ok (.aload_n 0, 1) := by decide +kernel
theorem dX11_tenthsBy_1 : decode cX11_tenthsBy 1 = .ok (.getfield 22, 3) := by decide +kernel
theorem dX11_tenthsBy_4 : decode cX11_tenthsBy 4 = .ok (.iload_n 1, 1) := by decide +kernel
theorem dX11_tenthsBy_5 : decode cX11_tenthsBy 5 = .ok (.iaload, 1) := by decide +kernel
theorem dX11_tenthsBy_6 : decode cX11_tenthsBy 6 = .ok (.aload_n 0, 1) := by decide +kernel
theorem dX11_tenthsBy_7 : decode cX11_tenthsBy 7 = .ok (.getfield 19, 3) := by decide +kernel
theorem dX11_tenthsBy_10 : decode cX11_tenthsBy 10 = .ok (.iload_n 1, 1) := by decide +kernel
theorem dX11_tenthsBy_11 : decode cX11_tenthsBy 11 = .ok (.iaload, 1) := by decide +kernel
theorem dX11_tenthsBy_12 : decode cX11_tenthsBy 12 = .ok (.iload_n 3, 1) := by decide +kernel
theorem dX11_tenthsBy_13 : decode cX11_tenthsBy 13 = .ok (.invokestatic 139, 3) := by decide +kernel
theorem dX11_tenthsBy_16 : decode cX11_tenthsBy 16 = .ok (.iadd, 1) := by decide +kernel
theorem dX11_tenthsBy_17 : decode cX11_tenthsBy 17 = .ok (.aload_n 0, 1) := by decide +kernel
theorem dX11_tenthsBy_18 : decode cX11_tenthsBy 18 = .ok (.getfield 7, 3) := by decide +kernel
theorem dX11_tenthsBy_21 : decode cX11_tenthsBy 21 = .ok (.iload_n 2, 1) := by decide +kernel
theorem dX11_tenthsBy_22 : decode cX11_tenthsBy 22 = .ok (.iaload, 1) := by decide +kernel
theorem dX11_tenthsBy_23 : decode cX11_tenthsBy 23 = .ok (.isub, 1) := by decide +kernel
theorem dX11_tenthsBy_24 : decode cX11_tenthsBy 24 = .ok (.istore 4, 2) := by decide +kernel
theorem dX11_tenthsBy_26 : decode cX11_tenthsBy 26 = .ok (.iload 4, 2) := by decide +kernel
theorem dX11_tenthsBy_28 : decode cX11_tenthsBy 28 = .ok (.ifCond .ge 7, 3) := by decide +kernel
theorem dX11_tenthsBy_31 : decode cX11_tenthsBy 31 = .ok (.iconst 0, 1) := by decide +kernel
theorem dX11_tenthsBy_32 : decode cX11_tenthsBy 32 = .ok (.goto 17, 3) := by decide +kernel
theorem dX11_tenthsBy_35 : decode cX11_tenthsBy 35 = .ok (.iload 4, 2) := by decide +kernel
theorem dX11_tenthsBy_37 : decode cX11_tenthsBy 37 = .ok (.bipush 10, 2) := by decide +kernel
theorem dX11_tenthsBy_39 : decode cX11_tenthsBy 39 = .ok (.if_icmp .le 8, 3) := by decide +kernel
theorem dX11_tenthsBy_42 : decode cX11_tenthsBy 42 = .ok (.bipush 10, 2) := by decide +kernel
theorem dX11_tenthsBy_44 : decode cX11_tenthsBy 44 = .ok (.goto 5, 3) := by decide +kernel
theorem dX11_tenthsBy_47 : decode cX11_tenthsBy 47 = .ok (.iload 4, 2) := by decide +kernel
theorem dX11_tenthsBy_49 : decode cX11_tenthsBy 49 = .ok (.ireturn, 1) := by decide +kernel
theorem dX11_tenthsNow_0 : decode cX11_tenthsNow 0 = .ok (.aload_n 0, 1) := by decide +kernel
theorem dX11_tenthsNow_1 : decode cX11_tenthsNow 1 = .ok (.iload_n 1, 1) := by decide +kernel
theorem dX11_tenthsNow_2 : decode cX11_tenthsNow 2 = .ok (.iload_n 2, 1) := by decide +kernel
theorem dX11_tenthsNow_3 : decode cX11_tenthsNow 3 = .ok (.aload_n 0, 1) := by decide +kernel
theorem dX11_tenthsNow_4 : decode cX11_tenthsNow 4 = .ok (.getfield 31, 3) := by decide +kernel
theorem dX11_tenthsNow_7 : decode cX11_tenthsNow 7 = .ok (.iconst 3, 1) := by decide +kernel
theorem dX11_tenthsNow_8 : decode cX11_tenthsNow 8 = .ok (.iload_n 1, 1) := by decide +kernel
theorem dX11_tenthsNow_9 : decode cX11_tenthsNow 9 = .ok (.imul, 1) := by decide +kernel
theorem dX11_tenthsNow_10 : decode cX11_tenthsNow 10 = .ok (.aload_n 0, 1) := by decide +kernel
theorem dX11_tenthsNow_11 : decode cX11_tenthsNow 11 = .ok (.getfield 25, 3) := by decide +kernel
theorem dX11_tenthsNow_14 : decode cX11_tenthsNow 14 = .ok (.iload_n 1, 1) := by decide +kernel
theorem dX11_tenthsNow_15 : decode cX11_tenthsNow 15 = .ok (.iaload, 1) := by decide +kernel
theorem dX11_tenthsNow_16 : decode cX11_tenthsNow 16 = .ok (.iadd, 1) := by decide +kernel
theorem dX11_tenthsNow_17 : decode cX11_tenthsNow 17 = .ok (.iaload, 1) := by decide +kernel
theorem dX11_tenthsNow_18 : decode cX11_tenthsNow 18 = .ok (.invokevirtual 142, 3) := by decide +kernel
theorem dX11_tenthsNow_21 : decode cX11_tenthsNow 21 = .ok (.ireturn, 1) := by decide +kernel
theorem dX11_princeNow_0 : decode cX11_princeNow 0 = .ok (.iload_n 2, 1) := by decide +kernel
theorem dX11_princeNow_1 : decode cX11_princeNow 1 = .ok (.tableswitch 69 0 4 #[35, 42, 49, 56, 62], 35) := by decide +kernel
theorem dX11_princeNow_36 : decode cX11_princeNow 36 = .ok (.aload_n 0, 1) := by decide +kernel
theorem dX11_princeNow_37 : decode cX11_princeNow 37 = .ok (.getfield 19, 3) := by decide +kernel
theorem dX11_princeNow_40 : decode cX11_princeNow 40 = .ok (.iload_n 1, 1) := by decide +kernel
theorem dX11_princeNow_41 : decode cX11_princeNow 41 = .ok (.iaload, 1) := by decide +kernel
theorem dX11_princeNow_42 : decode cX11_princeNow 42 = .ok (.ireturn, 1) := by decide +kernel
theorem dX11_princeNow_43 : decode cX11_princeNow 43 = .ok (.aload_n 0, 1) := by decide +kernel
theorem dX11_princeNow_44 : decode cX11_princeNow 44 = .ok (.getfield 22, 3) := by decide +kernel
theorem dX11_princeNow_47 : decode cX11_princeNow 47 = .ok (.iload_n 1, 1) := by decide +kernel
theorem dX11_princeNow_48 : decode cX11_princeNow 48 = .ok (.iaload, 1) := by decide +kernel
theorem dX11_princeNow_49 : decode cX11_princeNow 49 = .ok (.ireturn, 1) := by decide +kernel
theorem dX11_princeNow_50 : decode cX11_princeNow 50 = .ok (.aload_n 0, 1) := by decide +kernel
theorem dX11_princeNow_51 : decode cX11_princeNow 51 = .ok (.getfield 25, 3) := by decide +kernel
theorem dX11_princeNow_54 : decode cX11_princeNow 54 = .ok (.iload_n 1, 1) := by decide +kernel
theorem dX11_princeNow_55 : decode cX11_princeNow 55 = .ok (.iaload, 1) := by decide +kernel
theorem dX11_princeNow_56 : decode cX11_princeNow 56 = .ok (.ireturn, 1) := by decide +kernel
theorem dX11_princeNow_57 : decode cX11_princeNow 57 = .ok (.aload_n 0, 1) := by decide +kernel
theorem dX11_princeNow_58 : decode cX11_princeNow 58 = .ok (.iload_n 1, 1) := by decide +kernel
theorem dX11_princeNow_59 : decode cX11_princeNow 59 = .ok (.invokevirtual 146, 3) := by decide +kernel
theorem dX11_princeNow_62 : decode cX11_princeNow 62 = .ok (.ireturn, 1) := by decide +kernel
theorem dX11_princeNow_63 : decode cX11_princeNow 63 = .ok (.aload_n 0, 1) := by decide +kernel
theorem dX11_princeNow_64 : decode cX11_princeNow 64 = .ok (.getfield 28, 3) := by decide +kernel
theorem dX11_princeNow_67 : decode cX11_princeNow 67 = .ok (.iload_n 1, 1) := by decide +kernel
theorem dX11_princeNow_68 : decode cX11_princeNow 68 = .ok (.iaload, 1) := by decide +kernel
theorem dX11_princeNow_69 : decode cX11_princeNow 69 = .ok (.ireturn, 1) := by decide +kernel
theorem dX11_princeNow_70 : decode cX11_princeNow 70 = .ok (.aload_n 0, 1) := by decide +kernel
theorem dX11_princeNow_71 : decode cX11_princeNow 71 = .ok (.getfield 31, 3) := by decide +kernel
theorem dX11_princeNow_74 : decode cX11_princeNow 74 = .ok (.iconst 3, 1) := by decide +kernel
theorem dX11_princeNow_75 : decode cX11_princeNow 75 = .ok (.iload_n 1, 1) := by decide +kernel
theorem dX11_princeNow_76 : decode cX11_princeNow 76 = .ok (.imul, 1) := by decide +kernel
theorem dX11_princeNow_77 : decode cX11_princeNow 77 = .ok (.iload_n 2, 1) := by decide +kernel
theorem dX11_princeNow_78 : decode cX11_princeNow 78 = .ok (.iadd, 1) := by decide +kernel
theorem dX11_princeNow_79 : decode cX11_princeNow 79 = .ok (.bipush 10, 2) := by decide +kernel
theorem dX11_princeNow_81 : decode cX11_princeNow 81 = .ok (.isub, 1) := by decide +kernel
theorem dX11_princeNow_82 : decode cX11_princeNow 82 = .ok (.iaload, 1) := by decide +kernel
theorem dX11_princeNow_83 : decode cX11_princeNow 83 = .ok (.ireturn, 1) := by decide +kernel
theorem dX11_about_0 : decode cX11_about 0 = .ok (.aload_n 0, 1) := by decide +kernel
theorem dX11_about_1 : decode cX11_about 1 = .ok (.iload_n 1, 1) := by decide +kernel
theorem dX11_about_2 : decode cX11_about 2 = .ok (.invokevirtual 149, 3) := by decide +kernel
theorem dX11_about_5 : decode cX11_about 5 = .ok (.ifCond .ne 8, 3) := by decide +kernel
theorem dX11_about_8 : decode cX11_about 8 = .ok (.bipush (-101), 2) := by decide +kernel
theorem dX11_about_10 : decode cX11_about 10 = .ok (.goto 34, 3) := by decide +kernel
theorem dX11_about_13 : decode cX11_about 13 = .ok (.iload_n 2, 1) := by decide +kernel
theorem dX11_about_14 : decode cX11_about 14 = .ok (.iconst 0, 1) := by decide +kernel
theorem dX11_about_15 : decode cX11_about 15 = .ok (.iconst 4, 1) := by decide +kernel
theorem dX11_about_16 : decode cX11_about 16 = .ok (.invokestatic 77, 3) := by decide +kernel
theorem dX11_about_19 : decode cX11_about 19 = .ok (.ifCond .ne 14, 3) := by decide +kernel
theorem dX11_about_22 : decode cX11_about 22 = .ok (.iload_n 2, 1) := by decide +kernel
theorem dX11_about_23 : decode cX11_about 23 = .ok (.bipush 10, 2) := by decide +kernel
theorem dX11_about_25 : decode cX11_about 25 = .ok (.bipush 12, 2) := by decide +kernel
theorem dX11_about_27 : decode cX11_about 27 = .ok (.invokestatic 77, 3) := by decide +kernel
theorem dX11_about_30 : decode cX11_about 30 = .ok (.ifCond .eq 12, 3) := by decide +kernel
theorem dX11_about_33 : decode cX11_about 33 = .ok (.aload_n 0, 1) := by decide +kernel
theorem dX11_about_34 : decode cX11_about 34 = .ok (.iload_n 1, 1) := by decide +kernel
theorem dX11_about_35 : decode cX11_about 35 = .ok (.iload_n 2, 1) := by decide +kernel
theorem dX11_about_36 : decode cX11_about 36 = .ok (.invokevirtual 152, 3) := by decide +kernel
theorem dX11_about_39 : decode cX11_about 39 = .ok (.goto 5, 3) := by decide +kernel
theorem dX11_about_42 : decode cX11_about 42 = .ok (.bipush (-102), 2) := by decide +kernel
theorem dX11_about_44 : decode cX11_about 44 = .ok (.ireturn, 1) := by decide +kernel
theorem dX11_as_0 : decode cX11_as 0 = .ok (.aload_n 0, 1) := by decide +kernel
theorem dX11_as_1 : decode cX11_as 1 = .ok (.iload_n 1, 1) := by decide +kernel
theorem dX11_as_2 : decode cX11_as 2 = .ok (.invokevirtual 149, 3) := by decide +kernel
theorem dX11_as_5 : decode cX11_as 5 = .ok (.ifCond .ne 6, 3) := by decide +kernel
theorem dX11_as_8 : decode cX11_as 8 = .ok (.bipush (-101), 2) := by decide +kernel
theorem dX11_as_10 : decode cX11_as 10 = .ok (.ireturn, 1) := by decide +kernel
theorem dX11_as_11 : decode cX11_as 11 = .ok (.iload_n 2, 1) := by decide +kernel
theorem dX11_as_12 : decode cX11_as 12 = .ok (.iconst 0, 1) := by decide +kernel
theorem dX11_as_13 : decode cX11_as 13 = .ok (.iconst 4, 1) := by decide +kernel
theorem dX11_as_14 : decode cX11_as 14 = .ok (.invokestatic 77, 3) := by decide +kernel
theorem dX11_as_17 : decode cX11_as 17 = .ok (.ifCond .ne 6, 3) := by decide +kernel
theorem dX11_as_20 : decode cX11_as 20 = .ok (.bipush (-102), 2) := by decide +kernel
theorem dX11_as_22 : decode cX11_as 22 = .ok (.ireturn, 1) := by decide +kernel
theorem dX11_as_23 : decode cX11_as 23 = .ok (.aload_n 0, 1) := by decide +kernel
theorem dX11_as_24 : decode cX11_as 24 = .ok (.getfield 19, 3) := by decide +kernel
theorem dX11_as_27 : decode cX11_as 27 = .ok (.iload_n 1, 1) := by decide +kernel
theorem dX11_as_28 : decode cX11_as 28 = .ok (.iaload, 1) := by decide +kernel
theorem dX11_as_29 : decode cX11_as 29 = .ok (.istore_n 3, 1) := by decide +kernel
theorem dX11_as_30 : decode cX11_as 30 = .ok (.iload_n 2, 1) := by decide +kernel
theorem dX11_as_31 : decode cX11_as 31 = .ok (.ifCond .eq 18, 3) := by decide +kernel
theorem dX11_as_34 : decode cX11_as 34 = .ok (.iload_n 3, 1) := by decide +kernel
theorem dX11_as_35 : decode cX11_as 35 = .ok (.iload_n 2, 1) := by decide +kernel
theorem dX11_as_36 : decode cX11_as 36 = .ok (.if_icmp .eq 13, 3) := by decide +kernel
theorem dX11_as_39 : decode cX11_as 39 = .ok (.iload_n 2, 1) := by decide +kernel
theorem dX11_as_40 : decode cX11_as 40 = .ok (.iconst 1, 1) := by decide +kernel
theorem dX11_as_41 : decode cX11_as 41 = .ok (.if_icmp .ne 12, 3) := by decide +kernel
theorem dX11_as_44 : decode cX11_as 44 = .ok (.iload_n 3, 1) := by decide +kernel
theorem dX11_as_45 : decode cX11_as 45 = .ok (.iconst 4, 1) := by decide +kernel
theorem dX11_as_46 : decode cX11_as 46 = .ok (.if_icmp .ne 7, 3) := by decide +kernel
theorem dX11_as_49 : decode cX11_as 49 = .ok (.iload_n 1, 1) := by decide +kernel
theorem dX11_as_50 : decode cX11_as 50 = .ok (.goto 4, 3) := by decide +kernel
theorem dX11_as_53 : decode cX11_as 53 = .ok (.iconst (-1), 1) := by decide +kernel
theorem dX11_as_54 : decode cX11_as 54 = .ok (.ireturn, 1) := by decide +kernel
theorem dX11_give_0 : decode cX11_give 0 = .ok (.aload_n 0, 1) := by decide +kernel
theorem dX11_give_1 : decode cX11_give 1 = .ok (.iload_n 1, 1) := by decide +kernel
theorem dX11_give_2 : decode cX11_give 2 = .ok (.invokevirtual 149, 3) := by decide +kernel
theorem dX11_give_5 : decode cX11_give 5 = .ok (.ifCond .eq 11, 3) := by decide +kernel
theorem dX11_give_8 : decode cX11_give 8 = .ok (.aload_n 0, 1) := by decide +kernel
theorem dX11_give_9 : decode cX11_give 9 = .ok (.iload_n 2, 1) := by decide +kernel
theorem dX11_give_10 : decode cX11_give 10 = .ok (.invokevirtual 136, 3) := by decide +kernel
theorem dX11_give_13 : decode cX11_give 13 = .ok (.ifCond .ne 6, 3) := by decide +kernel
theorem dX11_give_16 : decode cX11_give 16 = .ok (.bipush (-101), 2) := by decide +kernel
theorem dX11_give_18 : decode cX11_give 18 = .ok (.ireturn, 1) := by decide +kernel
theorem dX11_give_19 : decode cX11_give 19 = .ok (.aload_n 0, 1) := by decide +kernel
theorem dX11_give_20 : decode cX11_give 20 = .ok (.getfield 25, 3) := by decide +kernel
theorem dX11_give_23 : decode cX11_give 23 = .ok (.iload_n 1, 1) := by decide +kernel
theorem dX11_give_24 : decode cX11_give 24 = .ok (.iaload, 1) := by decide +kernel
theorem dX11_give_25 : decode cX11_give 25 = .ok (.istore_n 3, 1) := by decide +kernel
theorem dX11_give_26 : decode cX11_give 26 = .ok (.aload_n 0, 1) := by decide +kernel
theorem dX11_give_27 : decode cX11_give 27 = .ok (.getfield 25, 3) := by decide +kernel
theorem dX11_give_30 : decode cX11_give 30 = .ok (.iload_n 1, 1) := by decide +kernel
theorem dX11_give_31 : decode cX11_give 31 = .ok (.iload_n 2, 1) := by decide +kernel
theorem dX11_give_32 : decode cX11_give 32 = .ok (.iastore, 1) := by decide +kernel
theorem dX11_give_33 : decode cX11_give 33 = .ok (.iload_n 3, 1) := by decide +kernel
theorem dX11_give_34 : decode cX11_give 34 = .ok (.ireturn, 1) := by decide +kernel
theorem dX11_fond_0 : decode cX11_fond 0 = .ok (.aload_n 0, 1) := by decide +kernel
theorem dX11_fond_1 : decode cX11_fond 1 = .ok (.iload_n 1, 1) := by decide +kernel
theorem dX11_fond_2 : decode cX11_fond 2 = .ok (.invokevirtual 149, 3) := by decide +kernel
theorem dX11_fond_5 : decode cX11_fond 5 = .ok (.ifCond .eq 11, 3) := by decide +kernel
theorem dX11_fond_8 : decode cX11_fond 8 = .ok (.aload_n 0, 1) := by decide +kernel
theorem dX11_fond_9 : decode cX11_fond 9 = .ok (.iload_n 2, 1) := by decide +kernel
theorem dX11_fond_10 : decode cX11_fond 10 = .ok (.invokevirtual 136, 3) := by decide +kernel
theorem dX11_fond_13 : decode cX11_fond 13 = .ok (.ifCond .ne 6, 3) := by decide +kernel
theorem dX11_fond_16 : decode cX11_fond 16 = .ok (.bipush (-101), 2) := by decide +kernel
theorem dX11_fond_18 : decode cX11_fond 18 = .ok (.ireturn, 1) := by decide +kernel
theorem dX11_fond_19 : decode cX11_fond 19 = .ok (.iload_n 3, 1) := by decide +kernel
theorem dX11_fond_20 : decode cX11_fond 20 = .ok (.iconst 0, 1) := by decide +kernel
theorem dX11_fond_21 : decode cX11_fond 21 = .ok (.bipush 9, 2) := by decide +kernel
theorem dX11_fond_23 : decode cX11_fond 23 = .ok (.invokestatic 77, 3) := by decide +kernel
theorem dX11_fond_26 : decode cX11_fond 26 = .ok (.ifCond .ne 6, 3) := by decide +kernel
theorem dX11_fond_29 : decode cX11_fond 29 = .ok (.bipush (-102), 2) := by decide +kernel
theorem dX11_fond_31 : decode cX11_fond 31 = .ok (.ireturn, 1) := by decide +kernel
theorem dX11_fond_32 : decode cX11_fond 32 = .ok (.aload_n 0, 1) := by decide +kernel
theorem dX11_fond_33 : decode cX11_fond 33 = .ok (.getfield 31, 3) := by decide +kernel
theorem dX11_fond_36 : decode cX11_fond 36 = .ok (.iconst 3, 1) := by decide +kernel
theorem dX11_fond_37 : decode cX11_fond 37 = .ok (.iload_n 1, 1) := by decide +kernel
theorem dX11_fond_38 : decode cX11_fond 38 = .ok (.imul, 1) := by decide +kernel
theorem dX11_fond_39 : decode cX11_fond 39 = .ok (.iload_n 2, 1) := by decide +kernel
theorem dX11_fond_40 : decode cX11_fond 40 = .ok (.iadd, 1) := by decide +kernel
theorem dX11_fond_41 : decode cX11_fond 41 = .ok (.iaload, 1) := by decide +kernel
theorem dX11_fond_42 : decode cX11_fond 42 = .ok (.istore 4, 2) := by decide +kernel
theorem dX11_fond_44 : decode cX11_fond 44 = .ok (.aload_n 0, 1) := by decide +kernel
theorem dX11_fond_45 : decode cX11_fond 45 = .ok (.getfield 31, 3) := by decide +kernel
theorem dX11_fond_48 : decode cX11_fond 48 = .ok (.iconst 3, 1) := by decide +kernel
theorem dX11_fond_49 : decode cX11_fond 49 = .ok (.iload_n 1, 1) := by decide +kernel
theorem dX11_fond_50 : decode cX11_fond 50 = .ok (.imul, 1) := by decide +kernel
theorem dX11_fond_51 : decode cX11_fond 51 = .ok (.iload_n 2, 1) := by decide +kernel
theorem dX11_fond_52 : decode cX11_fond 52 = .ok (.iadd, 1) := by decide +kernel
theorem dX11_fond_53 : decode cX11_fond 53 = .ok (.iload_n 3, 1) := by decide +kernel
theorem dX11_fond_54 : decode cX11_fond 54 = .ok (.iastore, 1) := by decide +kernel
theorem dX11_fond_55 : decode cX11_fond 55 = .ok (.iload 4, 2) := by decide +kernel
theorem dX11_fond_57 : decode cX11_fond 57 = .ok (.ireturn, 1) := by decide +kernel
theorem dX11_tenths_0 : decode cX11_tenths 0 = .ok (.aload_n 0, 1) := by decide +kernel
theorem dX11_tenths_1 : decode cX11_tenths 1 = .ok (.iload_n 1, 1) := by decide +kernel
theorem dX11_tenths_2 : decode cX11_tenths 2 = .ok (.invokevirtual 149, 3) := by decide +kernel
theorem dX11_tenths_5 : decode cX11_tenths 5 = .ok (.ifCond .eq 20, 3) := by decide +kernel
theorem dX11_tenths_8 : decode cX11_tenths 8 = .ok (.aload_n 0, 1) := by decide +kernel
theorem dX11_tenths_9 : decode cX11_tenths 9 = .ok (.iload_n 2, 1) := by decide +kernel
theorem dX11_tenths_10 : decode cX11_tenths 10 = .ok (.invokevirtual 128, 3) := by decide +kernel
theorem dX11_tenths_13 : decode cX11_tenths 13 = .ok (.ifCond .eq 12, 3) := by decide +kernel
theorem dX11_tenths_16 : decode cX11_tenths 16 = .ok (.aload_n 0, 1) := by decide +kernel
theorem dX11_tenths_17 : decode cX11_tenths 17 = .ok (.iload_n 1, 1) := by decide +kernel
theorem dX11_tenths_18 : decode cX11_tenths 18 = .ok (.iload_n 2, 1) := by decide +kernel
theorem dX11_tenths_19 : decode cX11_tenths 19 = .ok (.invokevirtual 155, 3) := by decide +kernel
theorem dX11_tenths_22 : decode cX11_tenths 22 = .ok (.goto 5, 3) := by decide +kernel
theorem dX11_tenths_25 : decode cX11_tenths 25 = .ok (.bipush (-101), 2) := by decide +kernel
theorem dX11_tenths_27 : decode cX11_tenths 27 = .ok (.ireturn, 1) := by decide +kernel
theorem dX11_fails_0 : decode cX11_fails 0 = .ok (.aload_n 0, 1) := by decide +kernel
theorem dX11_fails_1 : decode cX11_fails 1 = .ok (.getfield 25, 3) := by decide +kernel
theorem dX11_fails_4 : decode cX11_fails 4 = .ok (.iload_n 1, 1) := by decide +kernel
theorem dX11_fails_5 : decode cX11_fails 5 = .ok (.iaload, 1) := by decide +kernel
theorem dX11_fails_6 : decode cX11_fails 6 = .ok (.istore_n 3, 1) := by decide +kernel
theorem dX11_fails_7 : decode cX11_fails 7 = .ok (.aload_n 0, 1) := by decide +kernel
theorem dX11_fails_8 : decode cX11_fails 8 = .ok (.getfield 16, 3) := by decide +kernel
theorem dX11_fails_11 : decode cX11_fails 11 = .ok (.iload_n 3, 1) := by decide +kernel
theorem dX11_fails_12 : decode cX11_fails 12 = .ok (.dup2, 1) := by decide +kernel
theorem dX11_fails_13 : decode cX11_fails 13 = .ok (.iaload, 1) := by decide +kernel
theorem dX11_fails_14 : decode cX11_fails 14 = .ok (.aload_n 0, 1) := by decide +kernel
theorem dX11_fails_15 : decode cX11_fails 15 = .ok (.getfield 13, 3) := by decide +kernel
theorem dX11_fails_18 : decode cX11_fails 18 = .ok (.iload_n 2, 1) := by decide +kernel
theorem dX11_fails_19 : decode cX11_fails 19 = .ok (.iaload, 1) := by decide +kernel
theorem dX11_fails_20 : decode cX11_fails 20 = .ok (.iadd, 1) := by decide +kernel
theorem dX11_fails_21 : decode cX11_fails 21 = .ok (.iastore, 1) := by decide +kernel
theorem dX11_fails_22 : decode cX11_fails 22 = .ok (.aload_n 0, 1) := by decide +kernel
theorem dX11_fails_23 : decode cX11_fails 23 = .ok (.getfield 31, 3) := by decide +kernel
theorem dX11_fails_26 : decode cX11_fails 26 = .ok (.iconst 3, 1) := by decide +kernel
theorem dX11_fails_27 : decode cX11_fails 27 = .ok (.iload_n 1, 1) := by decide +kernel
theorem dX11_fails_28 : decode cX11_fails 28 = .ok (.imul, 1) := by decide +kernel
theorem dX11_fails_29 : decode cX11_fails 29 = .ok (.iload_n 3, 1) := by decide +kernel
theorem dX11_fails_30 : decode cX11_fails 30 = .ok (.iadd, 1) := by decide +kernel
theorem dX11_fails_31 : decode cX11_fails 31 = .ok (.iaload, 1) := by decide +kernel
theorem dX11_fails_32 : decode cX11_fails 32 = .ok (.aload_n 0, 1) := by decide +kernel
theorem dX11_fails_33 : decode cX11_fails 33 = .ok (.getfield 16, 3) := by decide +kernel
theorem dX11_fails_36 : decode cX11_fails 36 = .ok (.iload_n 3, 1) := by decide +kernel
theorem dX11_fails_37 : decode cX11_fails 37 = .ok (.iaload, 1) := by decide +kernel
theorem dX11_fails_38 : decode cX11_fails 38 = .ok (.aload_n 0, 1) := by decide +kernel
theorem dX11_fails_39 : decode cX11_fails 39 = .ok (.getfield 110, 3) := by decide +kernel
theorem dX11_fails_42 : decode cX11_fails 42 = .ok (.if_icmp .gt 7, 3) := by decide +kernel
theorem dX11_fails_45 : decode cX11_fails 45 = .ok (.iconst 1, 1) := by decide +kernel
theorem dX11_fails_46 : decode cX11_fails 46 = .ok (.goto 5, 3) := by decide +kernel
theorem dX11_fails_49 : decode cX11_fails 49 = .ok (.bipush (-2), 2) := by decide +kernel
theorem dX11_fails_51 : decode cX11_fails 51 = .ok (.iadd, 1) := by decide +kernel
theorem dX11_fails_52 : decode cX11_fails 52 = .ok (.istore 4, 2) := by decide +kernel
theorem dX11_fails_54 : decode cX11_fails 54 = .ok (.aload_n 0, 1) := by decide +kernel
theorem dX11_fails_55 : decode cX11_fails 55 = .ok (.getfield 31, 3) := by decide +kernel
theorem dX11_fails_58 : decode cX11_fails 58 = .ok (.iconst 3, 1) := by decide +kernel
theorem dX11_fails_59 : decode cX11_fails 59 = .ok (.iload_n 1, 1) := by decide +kernel
theorem dX11_fails_60 : decode cX11_fails 60 = .ok (.imul, 1) := by decide +kernel
theorem dX11_fails_61 : decode cX11_fails 61 = .ok (.iload_n 3, 1) := by decide +kernel
theorem dX11_fails_62 : decode cX11_fails 62 = .ok (.iadd, 1) := by decide +kernel
theorem dX11_fails_63 : decode cX11_fails 63 = .ok (.iload 4, 2) := by decide +kernel
theorem dX11_fails_65 : decode cX11_fails 65 = .ok (.ifCond .ge 7, 3) := by decide +kernel
theorem dX11_fails_68 : decode cX11_fails 68 = .ok (.iconst 0, 1) := by decide +kernel
theorem dX11_fails_69 : decode cX11_fails 69 = .ok (.goto 17, 3) := by decide +kernel
theorem dX11_fails_72 : decode cX11_fails 72 = .ok (.iload 4, 2) := by decide +kernel
theorem dX11_fails_74 : decode cX11_fails 74 = .ok (.bipush 9, 2) := by decide +kernel
theorem dX11_fails_76 : decode cX11_fails 76 = .ok (.if_icmp .le 8, 3) := by decide +kernel
theorem dX11_fails_79 : decode cX11_fails 79 = .ok (.bipush 9, 2) := by decide +kernel
theorem dX11_fails_81 : decode cX11_fails 81 = .ok (.goto 5, 3) := by decide +kernel
theorem dX11_fails_84 : decode cX11_fails 84 = .ok (.iload 4, 2) := by decide +kernel
theorem dX11_fails_86 : decode cX11_fails 86 = .ok (.iastore, 1) := by decide +kernel
theorem dX11_fails_87 : decode cX11_fails 87 = .ok (.return_, 1) := by decide +kernel
theorem dX11_teach_0 : decode cX11_teach 0 = .ok (.aload_n 0, 1) := by decide +kernel
theorem dX11_teach_1 : decode cX11_teach 1 = .ok (.iload_n 1, 1) := by decide +kernel
theorem dX11_teach_2 : decode cX11_teach 2 = .ok (.invokevirtual 149, 3) := by decide +kernel
theorem dX11_teach_5 : decode cX11_teach 5 = .ok (.ifCond .eq 11, 3) := by decide +kernel
theorem dX11_teach_8 : decode cX11_teach 8 = .ok (.aload_n 0, 1) := by decide +kernel
theorem dX11_teach_9 : decode cX11_teach 9 = .ok (.iload_n 2, 1) := by decide +kernel
theorem dX11_teach_10 : decode cX11_teach 10 = .ok (.invokevirtual 128, 3) := by decide +kernel
theorem dX11_teach_13 : decode cX11_teach 13 = .ok (.ifCond .ne 6, 3) := by decide +kernel
theorem dX11_teach_16 : decode cX11_teach 16 = .ok (.bipush (-101), 2) := by decide +kernel
theorem dX11_teach_18 : decode cX11_teach 18 = .ok (.ireturn, 1) := by decide +kernel
theorem dX11_teach_19 : decode cX11_teach 19 = .ok (.aload_n 0, 1) := by decide +kernel
theorem dX11_teach_20 : decode cX11_teach 20 = .ok (.getfield 28, 3) := by decide +kernel
theorem dX11_teach_23 : decode cX11_teach 23 = .ok (.iload_n 1, 1) := by decide +kernel
theorem dX11_teach_24 : decode cX11_teach 24 = .ok (.iaload, 1) := by decide +kernel
theorem dX11_teach_25 : decode cX11_teach 25 = .ok (.iload_n 2, 1) := by decide +kernel
theorem dX11_teach_26 : decode cX11_teach 26 = .ok (.invokestatic 122, 3) := by decide +kernel
theorem dX11_teach_29 : decode cX11_teach 29 = .ok (.ifCond .ne 22, 3) := by decide +kernel
theorem dX11_teach_32 : decode cX11_teach 32 = .ok (.aload_n 0, 1) := by decide +kernel
theorem dX11_teach_33 : decode cX11_teach 33 = .ok (.iload_n 1, 1) := by decide +kernel
theorem dX11_teach_34 : decode cX11_teach 34 = .ok (.iload_n 2, 1) := by decide +kernel
theorem dX11_teach_35 : decode cX11_teach 35 = .ok (.invokevirtual 155, 3) := by decide +kernel
theorem dX11_teach_38 : decode cX11_teach 38 = .ok (.iload_n 3, 1) := by decide +kernel
theorem dX11_teach_39 : decode cX11_teach 39 = .ok (.ifCond .eq 7, 3) := by decide +kernel
theorem dX11_teach_42 : decode cX11_teach 42 = .ok (.iconst 0, 1) := by decide +kernel
theorem dX11_teach_43 : decode cX11_teach 43 = .ok (.goto 5, 3) := by decide +kernel
theorem dX11_teach_46 : decode cX11_teach 46 = .ok (.bipush 10, 2) := by decide +kernel
theorem dX11_teach_48 : decode cX11_teach 48 = .ok (.if_icmp .ne 6, 3) := by decide +kernel
theorem dX11_teach_51 : decode cX11_teach 51 = .ok (.bipush (-103), 2) := by decide +kernel
theorem dX11_teach_53 : decode cX11_teach 53 = .ok (.ireturn, 1) := by decide +kernel
theorem dX11_teach_54 : decode cX11_teach 54 = .ok (.iload_n 3, 1) := by decide +kernel
theorem dX11_teach_55 : decode cX11_teach 55 = .ok (.ifCond .eq 18, 3) := by decide +kernel
theorem dX11_teach_58 : decode cX11_teach 58 = .ok (.aload_n 0, 1) := by decide +kernel
theorem dX11_teach_59 : decode cX11_teach 59 = .ok (.getfield 28, 3) := by decide +kernel
theorem dX11_teach_62 : decode cX11_teach 62 = .ok (.iload_n 1, 1) := by decide +kernel
theorem dX11_teach_63 : decode cX11_teach 63 = .ok (.dup2, 1) := by decide +kernel
theorem dX11_teach_64 : decode cX11_teach 64 = .ok (.iaload, 1) := by decide +kernel
theorem dX11_teach_65 : decode cX11_teach 65 = .ok (.iconst 1, 1) := by decide +kernel
theorem dX11_teach_66 : decode cX11_teach 66 = .ok (.iload_n 2, 1) := by decide +kernel
theorem dX11_teach_67 : decode cX11_teach 67 = .ok (.ishl, 1) := by decide +kernel
theorem dX11_teach_68 : decode cX11_teach 68 = .ok (.ior, 1) := by decide +kernel
theorem dX11_teach_69 : decode cX11_teach 69 = .ok (.iastore, 1) := by decide +kernel
theorem dX11_teach_70 : decode cX11_teach 70 = .ok (.goto 9, 3) := by decide +kernel
theorem dX11_teach_73 : decode cX11_teach 73 = .ok (.aload_n 0, 1) := by decide +kernel
theorem dX11_teach_74 : decode cX11_teach 74 = .ok (.iload_n 1, 1) := by decide +kernel
theorem dX11_teach_75 : decode cX11_teach 75 = .ok (.iload_n 2, 1) := by decide +kernel
theorem dX11_teach_76 : decode cX11_teach 76 = .ok (.invokevirtual 158, 3) := by decide +kernel
theorem dX11_teach_79 : decode cX11_teach 79 = .ok (.aload_n 0, 1) := by decide +kernel
theorem dX11_teach_80 : decode cX11_teach 80 = .ok (.getfield 16, 3) := by decide +kernel
theorem dX11_teach_83 : decode cX11_teach 83 = .ok (.aload_n 0, 1) := by decide +kernel
theorem dX11_teach_84 : decode cX11_teach 84 = .ok (.getfield 25, 3) := by decide +kernel
theorem dX11_teach_87 : decode cX11_teach 87 = .ok (.iload_n 1, 1) := by decide +kernel
theorem dX11_teach_88 : decode cX11_teach 88 = .ok (.iaload, 1) := by decide +kernel
theorem dX11_teach_89 : decode cX11_teach 89 = .ok (.iaload, 1) := by decide +kernel
theorem dX11_teach_90 : decode cX11_teach 90 = .ok (.ireturn, 1) := by decide +kernel
theorem dX11_layLeft_0 : decode cX11_layLeft 0 = .ok (.aload_n 0, 1) := by decide +kernel
theorem dX11_layLeft_1 : decode cX11_layLeft 1 = .ok (.iconst 0, 1) := by decide +kernel
theorem dX11_layLeft_2 : decode cX11_layLeft 2 = .ok (.putfield 162, 3) := by decide +kernel
theorem dX11_layLeft_5 : decode cX11_layLeft 5 = .ok (.iconst 0, 1) := by decide +kernel
theorem dX11_layLeft_6 : decode cX11_layLeft 6 = .ok (.istore_n 2, 1) := by decide +kernel
theorem dX11_layLeft_7 : decode cX11_layLeft 7 = .ok (.iload_n 2, 1) := by decide +kernel
theorem dX11_layLeft_8 : decode cX11_layLeft 8 = .ok (.aload_n 0, 1) := by decide +kernel
theorem dX11_layLeft_9 : decode cX11_layLeft 9 = .ok (.getfield 107, 3) := by decide +kernel
theorem dX11_layLeft_12 : decode cX11_layLeft 12 = .ok (.if_icmp .ge 42, 3) := by decide +kernel
theorem dX11_layLeft_15 : decode cX11_layLeft 15 = .ok (.aload_n 0, 1) := by decide +kernel
theorem dX11_layLeft_16 : decode cX11_layLeft 16 = .ok (.getfield 28, 3) := by decide +kernel
theorem dX11_layLeft_19 : decode cX11_layLeft 19 = .ok (.iload_n 1, 1) := by decide +kernel
theorem dX11_layLeft_20 : decode cX11_layLeft 20 = .ok (.iaload, 1) := by decide +kernel
theorem dX11_layLeft_21 : decode cX11_layLeft 21 = .ok (.iload_n 2, 1) := by decide +kernel
theorem dX11_layLeft_22 : decode cX11_layLeft 22 = .ok (.invokestatic 122, 3) := by decide +kernel
theorem dX11_layLeft_25 : decode cX11_layLeft 25 = .ok (.ifCond .ne 23, 3) := by decide +kernel
theorem dX11_layLeft_28 : decode cX11_layLeft 28 = .ok (.aload_n 0, 1) := by decide +kernel
theorem dX11_layLeft_29 : decode cX11_layLeft 29 = .ok (.getfield 47, 3) := by decide +kernel
theorem dX11_layLeft_32 : decode cX11_layLeft 32 = .ok (.aload_n 0, 1) := by decide +kernel
theorem dX11_layLeft_33 : decode cX11_layLeft 33 = .ok (.getfield 162, 3) := by decide +kernel
theorem dX11_layLeft_36 : decode cX11_layLeft 36 = .ok (.iload_n 2, 1) := by decide +kernel
theorem dX11_layLeft_37 : decode cX11_layLeft 37 = .ok (.iastore, 1) := by decide +kernel
theorem dX11_layLeft_38 : decode cX11_layLeft 38 = .ok (.aload_n 0, 1) := by decide +kernel
theorem dX11_layLeft_39 : decode cX11_layLeft 39 = .ok (.dup, 1) := by decide +kernel
theorem dX11_layLeft_40 : decode cX11_layLeft 40 = .ok (.getfield 162, 3) := by decide +kernel
theorem dX11_layLeft_43 : decode cX11_layLeft 43 = .ok (.iconst 1, 1) := by decide +kernel
theorem dX11_layLeft_44 : decode cX11_layLeft 44 = .ok (.iadd, 1) := by decide +kernel
theorem dX11_layLeft_45 : decode cX11_layLeft 45 = .ok (.putfield 162, 3) := by decide +kernel
theorem dX11_layLeft_48 : decode cX11_layLeft 48 = .ok (.iinc 2 1, 3) := by decide +kernel
theorem dX11_layLeft_51 : decode cX11_layLeft 51 = .ok (.goto (-44), 3) := by decide +kernel
theorem dX11_layLeft_54 : decode cX11_layLeft 54 = .ok (.return_, 1) := by decide +kernel
theorem dX11_save_0 : decode cX11_save 0 = .ok (.aload_n 0, 1) := by decide +kernel
theorem dX11_save_1 : decode cX11_save 1 = .ok (.aload_n 0, 1) := by decide +kernel
theorem dX11_save_2 : decode cX11_save 2 = .ok (.getfield 16, 3) := by decide +kernel
theorem dX11_save_5 : decode cX11_save 5 = .ok (.aload_n 0, 1) := by decide +kernel
theorem dX11_save_6 : decode cX11_save 6 = .ok (.getfield 25, 3) := by decide +kernel
theorem dX11_save_9 : decode cX11_save 9 = .ok (.iload_n 1, 1) := by decide +kernel
theorem dX11_save_10 : decode cX11_save 10 = .ok (.iaload, 1) := by decide +kernel
theorem dX11_save_11 : decode cX11_save 11 = .ok (.iaload, 1) := by decide +kernel
theorem dX11_save_12 : decode cX11_save 12 = .ok (.putfield 165, 3) := by decide +kernel
theorem dX11_save_15 : decode cX11_save 15 = .ok (.aload_n 0, 1) := by decide +kernel
theorem dX11_save_16 : decode cX11_save 16 = .ok (.aload_n 0, 1) := by decide +kernel
theorem dX11_save_17 : decode cX11_save 17 = .ok (.getfield 31, 3) := by decide +kernel
theorem dX11_save_20 : decode cX11_save 20 = .ok (.iconst 3, 1) := by decide +kernel
theorem dX11_save_21 : decode cX11_save 21 = .ok (.iload_n 1, 1) := by decide +kernel
theorem dX11_save_22 : decode cX11_save 22 = .ok (.imul, 1) := by decide +kernel
theorem dX11_save_23 : decode cX11_save 23 = .ok (.aload_n 0, 1) := by decide +kernel
theorem dX11_save_24 : decode cX11_save 24 = .ok (.getfield 25, 3) := by decide +kernel
theorem dX11_save_27 : decode cX11_save 27 = .ok (.iload_n 1, 1) := by decide +kernel
theorem dX11_save_28 : decode cX11_save 28 = .ok (.iaload, 1) := by decide +kernel
theorem dX11_save_29 : decode cX11_save 29 = .ok (.iadd, 1) := by decide +kernel
theorem dX11_save_30 : decode cX11_save 30 = .ok (.iaload, 1) := by decide +kernel
theorem dX11_save_31 : decode cX11_save 31 = .ok (.putfield 168, 3) := by decide +kernel
theorem dX11_save_34 : decode cX11_save 34 = .ok (.return_, 1) := by decide +kernel
theorem dX11_load_0 : decode cX11_load 0 = .ok (.aload_n 0, 1) := by decide +kernel
theorem dX11_load_1 : decode cX11_load 1 = .ok (.getfield 16, 3) := by decide +kernel
theorem dX11_load_4 : decode cX11_load 4 = .ok (.aload_n 0, 1) := by decide +kernel
theorem dX11_load_5 : decode cX11_load 5 = .ok (.getfield 25, 3) := by decide +kernel
theorem dX11_load_8 : decode cX11_load 8 = .ok (.iload_n 1, 1) := by decide +kernel
theorem dX11_load_9 : decode cX11_load 9 = .ok (.iaload, 1) := by decide +kernel
theorem dX11_load_10 : decode cX11_load 10 = .ok (.aload_n 0, 1) := by decide +kernel
theorem dX11_load_11 : decode cX11_load 11 = .ok (.getfield 165, 3) := by decide +kernel
theorem dX11_load_14 : decode cX11_load 14 = .ok (.iastore, 1) := by decide +kernel
theorem dX11_load_15 : decode cX11_load 15 = .ok (.aload_n 0, 1) := by decide +kernel
theorem dX11_load_16 : decode cX11_load 16 = .ok (.getfield 31, 3) := by decide +kernel
theorem dX11_load_19 : decode cX11_load 19 = .ok (.iconst 3, 1) := by decide +kernel
theorem dX11_load_20 : decode cX11_load 20 = .ok (.iload_n 1, 1) := by decide +kernel
theorem dX11_load_21 : decode cX11_load 21 = .ok (.imul, 1) := by decide +kernel
theorem dX11_load_22 : decode cX11_load 22 = .ok (.aload_n 0, 1) := by decide +kernel
theorem dX11_load_23 : decode cX11_load 23 = .ok (.getfield 25, 3) := by decide +kernel
theorem dX11_load_26 : decode cX11_load 26 = .ok (.iload_n 1, 1) := by decide +kernel
theorem dX11_load_27 : decode cX11_load 27 = .ok (.iaload, 1) := by decide +kernel
theorem dX11_load_28 : decode cX11_load 28 = .ok (.iadd, 1) := by decide +kernel
theorem dX11_load_29 : decode cX11_load 29 = .ok (.aload_n 0, 1) := by decide +kernel
theorem dX11_load_30 : decode cX11_load 30 = .ok (.getfield 168, 3) := by decide +kernel
theorem dX11_load_33 : decode cX11_load 33 = .ok (.iastore, 1) := by decide +kernel
theorem dX11_load_34 : decode cX11_load 34 = .ok (.return_, 1) := by decide +kernel
theorem dX11_layOrder_0 : decode cX11_layOrder 0 = .ok (.iload_n 1, 1) := by decide +kernel
theorem dX11_layOrder_1 : decode cX11_layOrder 1 = .ok (.istore_n 3, 1) := by decide +kernel
theorem dX11_layOrder_2 : decode cX11_layOrder 2 = .ok (.iload_n 2, 1) := by decide +kernel
theorem dX11_layOrder_3 : decode cX11_layOrder 3 = .ok (.istore 4, 2) := by decide +kernel
theorem dX11_layOrder_5 : decode cX11_layOrder 5 = .ok (.iconst 0, 1) := by decide +kernel
theorem dX11_layOrder_6 : decode cX11_layOrder 6 = .ok (.istore 5, 2) := by decide +kernel
theorem dX11_layOrder_8 : decode cX11_layOrder 8 = .ok (.iconst 0, 1) := by decide +kernel
theorem dX11_layOrder_9 : decode cX11_layOrder 9 = .ok (.istore 6, 2) := by decide +kernel
theorem dX11_layOrder_11 : decode cX11_layOrder 11 = .ok (.iload 6, 2) := by decide +kernel
theorem dX11_layOrder_13 : decode cX11_layOrder 13 = .ok (.aload_n 0, 1) := by decide +kernel
theorem dX11_layOrder_14 : decode cX11_layOrder 14 = .ok (.getfield 162, 3) := by decide +kernel
theorem dX11_layOrder_17 : decode cX11_layOrder 17 = .ok (.if_icmp .ge 99, 3) := by decide +kernel
theorem dX11_layOrder_20 : decode cX11_layOrder 20 = .ok (.iload 4, 2) := by decide +kernel
theorem dX11_layOrder_22 : decode cX11_layOrder 22 = .ok (.aload_n 0, 1) := by decide +kernel
theorem dX11_layOrder_23 : decode cX11_layOrder 23 = .ok (.getfield 162, 3) := by decide +kernel
theorem dX11_layOrder_26 : decode cX11_layOrder 26 = .ok (.iload 6, 2) := by decide +kernel
theorem dX11_layOrder_28 : decode cX11_layOrder 28 = .ok (.isub, 1) := by decide +kernel
theorem dX11_layOrder_29 : decode cX11_layOrder 29 = .ok (.idiv, 1) := by decide +kernel
theorem dX11_layOrder_30 : decode cX11_layOrder 30 = .ok (.istore 4, 2) := by decide +kernel
theorem dX11_layOrder_32 : decode cX11_layOrder 32 = .ok (.iload_n 3, 1) := by decide +kernel
theorem dX11_layOrder_33 : decode cX11_layOrder 33 = .ok (.iload 4, 2) := by decide +kernel
theorem dX11_layOrder_35 : decode cX11_layOrder 35 = .ok (.idiv, 1) := by decide +kernel
theorem dX11_layOrder_36 : decode cX11_layOrder 36 = .ok (.istore 7, 2) := by decide +kernel
theorem dX11_layOrder_38 : decode cX11_layOrder 38 = .ok (.iload_n 3, 1) := by decide +kernel
theorem dX11_layOrder_39 : decode cX11_layOrder 39 = .ok (.iload 4, 2) := by decide +kernel
theorem dX11_layOrder_41 : decode cX11_layOrder 41 = .ok (.irem, 1) := by decide +kernel
theorem dX11_layOrder_42 : decode cX11_layOrder 42 = .ok (.istore_n 3, 1) := by decide +kernel
theorem dX11_layOrder_43 : decode cX11_layOrder 43 = .ok (.iconst 0, 1) := by decide +kernel
theorem dX11_layOrder_44 : decode cX11_layOrder 44 = .ok (.istore 8, 2) := by decide +kernel
theorem dX11_layOrder_46 : decode cX11_layOrder 46 = .ok (.iload 5, 2) := by decide +kernel
theorem dX11_layOrder_48 : decode cX11_layOrder 48 = .ok (.iload 8, 2) := by decide +kernel
theorem dX11_layOrder_50 : decode cX11_layOrder 50 = .ok (.invokestatic 122, 3) := by decide +kernel
theorem dX11_layOrder_53 : decode cX11_layOrder 53 = .ok (.ifCond .ne 8, 3) := by decide +kernel
theorem dX11_layOrder_56 : decode cX11_layOrder 56 = .ok (.iload 7, 2) := by decide +kernel
theorem dX11_layOrder_58 : decode cX11_layOrder 58 = .ok (.ifCond .le 29, 3) := by decide +kernel
theorem dX11_layOrder_61 : decode cX11_layOrder 61 = .ok (.iload 7, 2) := by decide +kernel
theorem dX11_layOrder_63 : decode cX11_layOrder 63 = .ok (.iload 5, 2) := by decide +kernel
theorem dX11_layOrder_65 : decode cX11_layOrder 65 = .ok (.iload 8, 2) := by decide +kernel
theorem dX11_layOrder_67 : decode cX11_layOrder 67 = .ok (.invokestatic 122, 3) := by decide +kernel
theorem dX11_layOrder_70 : decode cX11_layOrder 70 = .ok (.ifCond .eq 7, 3) := by decide +kernel
theorem dX11_layOrder_73 : decode cX11_layOrder 73 = .ok (.iconst 0, 1) := by decide +kernel
theorem dX11_layOrder_74 : decode cX11_layOrder 74 = .ok (.goto 4, 3) := by decide +kernel
theorem dX11_layOrder_77 : decode cX11_layOrder 77 = .ok (.iconst 1, 1) := by decide +kernel
theorem dX11_layOrder_78 : decode cX11_layOrder 78 = .ok (.isub, 1) := by decide +kernel
theorem dX11_layOrder_79 : decode cX11_layOrder 79 = .ok (.istore 7, 2) := by decide +kernel
theorem dX11_layOrder_81 : decode cX11_layOrder 81 = .ok (.iinc 8 1, 3) := by decide +kernel
theorem dX11_layOrder_84 : decode cX11_layOrder 84 = .ok (.goto (-38), 3) := by decide +kernel
theorem dX11_layOrder_87 : decode cX11_layOrder 87 = .ok (.iload 5, 2) := by decide +kernel
theorem dX11_layOrder_89 : decode cX11_layOrder 89 = .ok (.iconst 1, 1) := by decide +kernel
theorem dX11_layOrder_90 : decode cX11_layOrder 90 = .ok (.iload 8, 2) := by decide +kernel
theorem dX11_layOrder_92 : decode cX11_layOrder 92 = .ok (.ishl, 1) := by decide +kernel
theorem dX11_layOrder_93 : decode cX11_layOrder 93 = .ok (.ior, 1) := by decide +kernel
theorem dX11_layOrder_94 : decode cX11_layOrder 94 = .ok (.istore 5, 2) := by decide +kernel
theorem dX11_layOrder_96 : decode cX11_layOrder 96 = .ok (.aload_n 0, 1) := by decide +kernel
theorem dX11_layOrder_97 : decode cX11_layOrder 97 = .ok (.getfield 50, 3) := by decide +kernel
theorem dX11_layOrder_100 : decode cX11_layOrder 100 = .ok (.iload 6, 2) := by decide +kernel
theorem dX11_layOrder_102 : decode cX11_layOrder 102 = .ok (.aload_n 0, 1) := by decide +kernel
theorem dX11_layOrder_103 : decode cX11_layOrder 103 = .ok (.getfield 47, 3) := by decide +kernel
theorem dX11_layOrder_106 : decode cX11_layOrder 106 = .ok (.iload 8, 2) := by decide +kernel
theorem dX11_layOrder_108 : decode cX11_layOrder 108 = .ok (.iaload, 1) := by decide +kernel
theorem dX11_layOrder_109 : decode cX11_layOrder 109 = .ok (.iastore, 1) := by decide +kernel
theorem dX11_layOrder_110 : decode cX11_layOrder 110 = .ok (.iinc 6 1, 3) := by decide +kernel
theorem dX11_layOrder_113 : decode cX11_layOrder 113 = .ok (.goto (-102), 3) := by decide +kernel
theorem dX11_layOrder_116 : decode cX11_layOrder 116 = .ok (.return_, 1) := by decide +kernel
theorem dX11_meanBy_0 : decode cX11_meanBy 0 = .ok (.aload_n 0, 1) := by decide +kernel
theorem dX11_meanBy_1 : decode cX11_meanBy 1 = .ok (.iload_n 1, 1) := by decide +kernel
theorem dX11_meanBy_2 : decode cX11_meanBy 2 = .ok (.invokevirtual 171, 3) := by decide +kernel
theorem dX11_meanBy_5 : decode cX11_meanBy 5 = .ok (.lconst 1, 1) := by decide +kernel
theorem dX11_meanBy_6 : decode cX11_meanBy 6 = .ok (.lstore_n 3, 1) := by decide +kernel
theorem dX11_meanBy_7 : decode cX11_meanBy 7 = .ok (.iconst 0, 1) := by decide +kernel
theorem dX11_meanBy_8 : decode cX11_meanBy 8 = .ok (.istore 5, 2) := by decide +kernel
theorem dX11_meanBy_10 : decode cX11_meanBy 10 = .ok (.iconst 0, 1) := by decide +kernel
theorem dX11_meanBy_11 : decode cX11_meanBy 11 = .ok (.istore 6, 2) := by decide +kernel
theorem dX11_meanBy_13 : decode cX11_meanBy 13 = .ok (.iload 6, 2) := by decide +kernel
theorem dX11_meanBy_15 : decode cX11_meanBy 15 = .ok (.aload_n 0, 1) := by decide +kernel
theorem dX11_meanBy_16 : decode cX11_meanBy 16 = .ok (.getfield 162, 3) := by decide +kernel
theorem dX11_meanBy_19 : decode cX11_meanBy 19 = .ok (.if_icmp .ge 79, 3) := by decide +kernel
theorem dX11_meanBy_22 : decode cX11_meanBy 22 = .ok (.aload_n 0, 1) := by decide +kernel
theorem dX11_meanBy_23 : decode cX11_meanBy 23 = .ok (.iload_n 1, 1) := by decide +kernel
theorem dX11_meanBy_24 : decode cX11_meanBy 24 = .ok (.aload_n 0, 1) := by decide +kernel
theorem dX11_meanBy_25 : decode cX11_meanBy 25 = .ok (.getfield 50, 3) := by decide +kernel
theorem dX11_meanBy_28 : decode cX11_meanBy 28 = .ok (.iload 6, 2) := by decide +kernel
theorem dX11_meanBy_30 : decode cX11_meanBy 30 = .ok (.iaload, 1) := by decide +kernel
theorem dX11_meanBy_31 : decode cX11_meanBy 31 = .ok (.invokevirtual 155, 3) := by decide +kernel
theorem dX11_meanBy_34 : decode cX11_meanBy 34 = .ok (.istore 7, 2) := by decide +kernel
theorem dX11_meanBy_36 : decode cX11_meanBy 36 = .ok (.iload_n 2, 1) := by decide +kernel
theorem dX11_meanBy_37 : decode cX11_meanBy 37 = .ok (.iload 6, 2) := by decide +kernel
theorem dX11_meanBy_39 : decode cX11_meanBy 39 = .ok (.invokestatic 122, 3) := by decide +kernel
theorem dX11_meanBy_42 : decode cX11_meanBy 42 = .ok (.ifCond .eq 44, 3) := by decide +kernel
theorem dX11_meanBy_45 : decode cX11_meanBy 45 = .ok (.lload_n 3, 1) := by decide +kernel
theorem dX11_meanBy_46 : decode cX11_meanBy 46 = .ok (.bipush 10, 2) := by decide +kernel
theorem dX11_meanBy_48 : decode cX11_meanBy 48 = .ok (.iload 7, 2) := by decide +kernel
theorem dX11_meanBy_50 : decode cX11_meanBy 50 = .ok (.isub, 1) := by decide +kernel
theorem dX11_meanBy_51 : decode cX11_meanBy 51 = .ok (.i2l, 1) := by decide +kernel
theorem dX11_meanBy_52 : decode cX11_meanBy 52 = .ok (.lmul, 1) := by decide +kernel
theorem dX11_meanBy_53 : decode cX11_meanBy 53 = .ok (.lstore_n 3, 1) := by decide +kernel
theorem dX11_meanBy_54 : decode cX11_meanBy 54 = .ok (.iload 5, 2) := by decide +kernel
theorem dX11_meanBy_56 : decode cX11_meanBy 56 = .ok (.aload_n 0, 1) := by decide +kernel
theorem dX11_meanBy_57 : decode cX11_meanBy 57 = .ok (.getfield 13, 3) := by decide +kernel
theorem dX11_meanBy_60 : decode cX11_meanBy 60 = .ok (.aload_n 0, 1) := by decide +kernel
theorem dX11_meanBy_61 : decode cX11_meanBy 61 = .ok (.getfield 50, 3) := by decide +kernel
theorem dX11_meanBy_64 : decode cX11_meanBy 64 = .ok (.iload 6, 2) := by decide +kernel
theorem dX11_meanBy_66 : decode cX11_meanBy 66 = .ok (.iaload, 1) := by decide +kernel
theorem dX11_meanBy_67 : decode cX11_meanBy 67 = .ok (.iaload, 1) := by decide +kernel
theorem dX11_meanBy_68 : decode cX11_meanBy 68 = .ok (.iadd, 1) := by decide +kernel
theorem dX11_meanBy_69 : decode cX11_meanBy 69 = .ok (.istore 5, 2) := by decide +kernel
theorem dX11_meanBy_71 : decode cX11_meanBy 71 = .ok (.aload_n 0, 1) := by decide +kernel
theorem dX11_meanBy_72 : decode cX11_meanBy 72 = .ok (.iload_n 1, 1) := by decide +kernel
theorem dX11_meanBy_73 : decode cX11_meanBy 73 = .ok (.aload_n 0, 1) := by decide +kernel
theorem dX11_meanBy_74 : decode cX11_meanBy 74 = .ok (.getfield 50, 3) := by decide +kernel
theorem dX11_meanBy_77 : decode cX11_meanBy 77 = .ok (.iload 6, 2) := by decide +kernel
theorem dX11_meanBy_79 : decode cX11_meanBy 79 = .ok (.iaload, 1) := by decide +kernel
theorem dX11_meanBy_80 : decode cX11_meanBy 80 = .ok (.invokevirtual 158, 3) := by decide +kernel
theorem dX11_meanBy_83 : decode cX11_meanBy 83 = .ok (.goto 9, 3) := by decide +kernel
theorem dX11_meanBy_86 : decode cX11_meanBy 86 = .ok (.lload_n 3, 1) := by decide +kernel
theorem dX11_meanBy_87 : decode cX11_meanBy 87 = .ok (.iload 7, 2) := by decide +kernel
theorem dX11_meanBy_89 : decode cX11_meanBy 89 = .ok (.i2l, 1) := by decide +kernel
theorem dX11_meanBy_90 : decode cX11_meanBy 90 = .ok (.lmul, 1) := by decide +kernel
theorem dX11_meanBy_91 : decode cX11_meanBy 91 = .ok (.lstore_n 3, 1) := by decide +kernel
theorem dX11_meanBy_92 : decode cX11_meanBy 92 = .ok (.iinc 6 1, 3) := by decide +kernel
theorem dX11_meanBy_95 : decode cX11_meanBy 95 = .ok (.goto (-82), 3) := by decide +kernel
theorem dX11_meanBy_98 : decode cX11_meanBy 98 = .ok (.aload_n 0, 1) := by decide +kernel
theorem dX11_meanBy_99 : decode cX11_meanBy 99 = .ok (.iload_n 1, 1) := by decide +kernel
theorem dX11_meanBy_100 : decode cX11_meanBy 100 = .ok (.invokevirtual 175, 3) := by decide +kernel
theorem dX11_meanBy_103 : decode cX11_meanBy 103 = .ok (.lload_n 3, 1) := by decide +kernel
theorem dX11_meanBy_104 : decode cX11_meanBy 104 = .ok (.iload 5, 2) := by decide +kernel
theorem dX11_meanBy_106 : decode cX11_meanBy 106 = .ok (.i2l, 1) := by decide +kernel
theorem dX11_meanBy_107 : decode cX11_meanBy 107 = .ok (.lmul, 1) := by decide +kernel
theorem dX11_meanBy_108 : decode cX11_meanBy 108 = .ok (.lreturn, 1) := by decide +kernel
theorem dX11_meanOf_0 : decode cX11_meanOf 0 = .ok (.lconst 0, 1) := by decide +kernel
theorem dX11_meanOf_1 : decode cX11_meanOf 1 = .ok (.lstore_n 2, 1) := by decide +kernel
theorem dX11_meanOf_2 : decode cX11_meanOf 2 = .ok (.iconst 0, 1) := by decide +kernel
theorem dX11_meanOf_3 : decode cX11_meanOf 3 = .ok (.istore 4, 2) := by decide +kernel
theorem dX11_meanOf_5 : decode cX11_meanOf 5 = .ok (.iload 4, 2) := by decide +kernel
theorem dX11_meanOf_7 : decode cX11_meanOf 7 = .ok (.iconst 1, 1) := by decide +kernel
theorem dX11_meanOf_8 : decode cX11_meanOf 8 = .ok (.aload_n 0, 1) := by decide +kernel
theorem dX11_meanOf_9 : decode cX11_meanOf 9 = .ok (.getfield 162, 3) := by decide +kernel
theorem dX11_meanOf_12 : decode cX11_meanOf 12 = .ok (.ishl, 1) := by decide +kernel
theorem dX11_meanOf_13 : decode cX11_meanOf 13 = .ok (.if_icmp .ge 19, 3) := by decide +kernel
theorem dX11_meanOf_16 : decode cX11_meanOf 16 = .ok (.lload_n 2, 1) := by decide +kernel
theorem dX11_meanOf_17 : decode cX11_meanOf 17 = .ok (.aload_n 0, 1) := by decide +kernel
theorem dX11_meanOf_18 : decode cX11_meanOf 18 = .ok (.iload_n 1, 1) := by decide +kernel
theorem dX11_meanOf_19 : decode cX11_meanOf 19 = .ok (.iload 4, 2) := by decide +kernel
theorem dX11_meanOf_21 : decode cX11_meanOf 21 = .ok (.invokevirtual 178, 3) := by decide +kernel
theorem dX11_meanOf_24 : decode cX11_meanOf 24 = .ok (.ladd, 1) := by decide +kernel
theorem dX11_meanOf_25 : decode cX11_meanOf 25 = .ok (.lstore_n 2, 1) := by decide +kernel
theorem dX11_meanOf_26 : decode cX11_meanOf 26 = .ok (.iinc 4 1, 3) := by decide +kernel
theorem dX11_meanOf_29 : decode cX11_meanOf 29 = .ok (.goto (-24), 3) := by decide +kernel
theorem dX11_meanOf_32 : decode cX11_meanOf 32 = .ok (.lload_n 2, 1) := by decide +kernel
theorem dX11_meanOf_33 : decode cX11_meanOf 33 = .ok (.lreturn, 1) := by decide +kernel
theorem dX11_orderNow_0 : decode cX11_orderNow 0 = .ok (.aload_n 0, 1) := by decide +kernel
theorem dX11_orderNow_1 : decode cX11_orderNow 1 = .ok (.iload_n 1, 1) := by decide +kernel
theorem dX11_orderNow_2 : decode cX11_orderNow 2 = .ok (.invokevirtual 182, 3) := by decide +kernel
theorem dX11_orderNow_5 : decode cX11_orderNow 5 = .ok (.iconst 1, 1) := by decide +kernel
theorem dX11_orderNow_6 : decode cX11_orderNow 6 = .ok (.istore_n 3, 1) := by decide +kernel
theorem dX11_orderNow_7 : decode cX11_orderNow 7 = .ok (.lconst 1, 1) := by decide +kernel
theorem dX11_orderNow_8 : decode cX11_orderNow 8 = .ok (.lstore 4, 2) := by decide +kernel
theorem dX11_orderNow_10 : decode cX11_orderNow 10 = .ok (.iconst 1, 1) := by decide +kernel
theorem dX11_orderNow_11 : decode cX11_orderNow 11 = .ok (.istore 6, 2) := by decide +kernel
theorem dX11_orderNow_13 : decode cX11_orderNow 13 = .ok (.iload 6, 2) := by decide +kernel
theorem dX11_orderNow_15 : decode cX11_orderNow 15 = .ok (.aload_n 0, 1) := by decide +kernel
theorem dX11_orderNow_16 : decode cX11_orderNow 16 = .ok (.getfield 162, 3) := by decide +kernel
theorem dX11_orderNow_19 : decode cX11_orderNow 19 = .ok (.if_icmp .gt 22, 3) := by decide +kernel
theorem dX11_orderNow_22 : decode cX11_orderNow 22 = .ok (.iload_n 3, 1) := by decide +kernel
theorem dX11_orderNow_23 : decode cX11_orderNow 23 = .ok (.iload 6, 2) := by decide +kernel
theorem dX11_orderNow_25 : decode cX11_orderNow 25 = .ok (.imul, 1) := by decide +kernel
theorem dX11_orderNow_26 : decode cX11_orderNow 26 = .ok (.istore_n 3, 1) := by decide +kernel
theorem dX11_orderNow_27 : decode cX11_orderNow 27 = .ok (.lload 4, 2) := by decide +kernel
theorem dX11_orderNow_29 : decode cX11_orderNow 29 = .ok (.ldc2_w 185, 3) := by decide +kernel
theorem dX11_orderNow_32 : decode cX11_orderNow 32 = .ok (.lmul, 1) := by decide +kernel
theorem dX11_orderNow_33 : decode cX11_orderNow 33 = .ok (.lstore 4, 2) := by decide +kernel
theorem dX11_orderNow_35 : decode cX11_orderNow 35 = .ok (.iinc 6 1, 3) := by decide +kernel
theorem dX11_orderNow_38 : decode cX11_orderNow 38 = .ok (.goto (-25), 3) := by decide +kernel
theorem dX11_orderNow_41 : decode cX11_orderNow 41 = .ok (.iconst (-1), 1) := by decide +kernel
theorem dX11_orderNow_42 : decode cX11_orderNow 42 = .ok (.istore 6, 2) := by decide +kernel
theorem dX11_orderNow_44 : decode cX11_orderNow 44 = .ok (.lconst 0, 1) := by decide +kernel
theorem dX11_orderNow_45 : decode cX11_orderNow 45 = .ok (.lstore 7, 2) := by decide +kernel
theorem dX11_orderNow_47 : decode cX11_orderNow 47 = .ok (.iconst 0, 1) := by decide +kernel
theorem dX11_orderNow_48 : decode cX11_orderNow 48 = .ok (.istore 9, 2) := by decide +kernel
theorem dX11_orderNow_50 : decode cX11_orderNow 50 = .ok (.iload 9, 2) := by decide +kernel
theorem dX11_orderNow_52 : decode cX11_orderNow 52 = .ok (.iload_n 3, 1) := by decide +kernel
