theorem dX11_orderNow_53 : decode cX11_orderNow 53 = .ok (.if_icmp .ge 72, 3) := by decide +kernel
theorem dX11_orderNow_56 : decode cX11_orderNow 56 = .ok (.aload_n 0, 1) := by decide +kernel
theorem dX11_orderNow_57 : decode cX11_orderNow 57 = .ok (.iload 9, 2) := by decide +kernel
theorem dX11_orderNow_59 : decode cX11_orderNow 59 = .ok (.iload_n 3, 1) := by decide +kernel
theorem dX11_orderNow_60 : decode cX11_orderNow 60 = .ok (.invokevirtual 187, 3) := by decide +kernel
theorem dX11_orderNow_63 : decode cX11_orderNow 63 = .ok (.aload_n 0, 1) := by decide +kernel
theorem dX11_orderNow_64 : decode cX11_orderNow 64 = .ok (.iload_n 1, 1) := by decide +kernel
theorem dX11_orderNow_65 : decode cX11_orderNow 65 = .ok (.invokevirtual 190, 3) := by decide +kernel
theorem dX11_orderNow_68 : decode cX11_orderNow 68 = .ok (.lstore 10, 2) := by decide +kernel
theorem dX11_orderNow_70 : decode cX11_orderNow 70 = .ok (.iload 6, 2) := by decide +kernel
theorem dX11_orderNow_72 : decode cX11_orderNow 72 = .ok (.iconst (-1), 1) := by decide +kernel
theorem dX11_orderNow_73 : decode cX11_orderNow 73 = .ok (.if_icmp .eq 11, 3) := by decide +kernel
theorem dX11_orderNow_76 : decode cX11_orderNow 76 = .ok (.lload 10, 2) := by decide +kernel
theorem dX11_orderNow_78 : decode cX11_orderNow 78 = .ok (.lload 7, 2) := by decide +kernel
theorem dX11_orderNow_80 : decode cX11_orderNow 80 = .ok (.lcmp, 1) := by decide +kernel
theorem dX11_orderNow_81 : decode cX11_orderNow 81 = .ok (.ifCond .ge 7, 3) := by decide +kernel
theorem dX11_orderNow_84 : decode cX11_orderNow 84 = .ok (.iconst 1, 1) := by decide +kernel
theorem dX11_orderNow_85 : decode cX11_orderNow 85 = .ok (.goto 4, 3) := by decide +kernel
theorem dX11_orderNow_88 : decode cX11_orderNow 88 = .ok (.iconst 0, 1) := by decide +kernel
theorem dX11_orderNow_89 : decode cX11_orderNow 89 = .ok (.istore 12, 2) := by decide +kernel
theorem dX11_orderNow_91 : decode cX11_orderNow 91 = .ok (.iload 12, 2) := by decide +kernel
theorem dX11_orderNow_93 : decode cX11_orderNow 93 = .ok (.ifCond .eq 8, 3) := by decide +kernel
theorem dX11_orderNow_96 : decode cX11_orderNow 96 = .ok (.iload 9, 2) := by decide +kernel
theorem dX11_orderNow_98 : decode cX11_orderNow 98 = .ok (.goto 5, 3) := by decide +kernel
theorem dX11_orderNow_101 : decode cX11_orderNow 101 = .ok (.iload 6, 2) := by decide +kernel
theorem dX11_orderNow_103 : decode cX11_orderNow 103 = .ok (.istore 6, 2) := by decide +kernel
theorem dX11_orderNow_105 : decode cX11_orderNow 105 = .ok (.iload 12, 2) := by decide +kernel
theorem dX11_orderNow_107 : decode cX11_orderNow 107 = .ok (.ifCond .eq 8, 3) := by decide +kernel
theorem dX11_orderNow_110 : decode cX11_orderNow 110 = .ok (.lload 10, 2) := by decide +kernel
theorem dX11_orderNow_112 : decode cX11_orderNow 112 = .ok (.goto 5, 3) := by decide +kernel
theorem dX11_orderNow_115 : decode cX11_orderNow 115 = .ok (.lload 7, 2) := by decide +kernel
theorem dX11_orderNow_117 : decode cX11_orderNow 117 = .ok (.lstore 7, 2) := by decide +kernel
theorem dX11_orderNow_119 : decode cX11_orderNow 119 = .ok (.iinc 9 1, 3) := by decide +kernel
theorem dX11_orderNow_122 : decode cX11_orderNow 122 = .ok (.goto (-72), 3) := by decide +kernel
theorem dX11_orderNow_125 : decode cX11_orderNow 125 = .ok (.aload_n 0, 1) := by decide +kernel
theorem dX11_orderNow_126 : decode cX11_orderNow 126 = .ok (.iload 6, 2) := by decide +kernel
theorem dX11_orderNow_128 : decode cX11_orderNow 128 = .ok (.iload_n 3, 1) := by decide +kernel
theorem dX11_orderNow_129 : decode cX11_orderNow 129 = .ok (.invokevirtual 187, 3) := by decide +kernel
theorem dX11_orderNow_132 : decode cX11_orderNow 132 = .ok (.iload_n 2, 1) := by decide +kernel
theorem dX11_orderNow_133 : decode cX11_orderNow 133 = .ok (.iconst 2, 1) := by decide +kernel
theorem dX11_orderNow_134 : decode cX11_orderNow 134 = .ok (.if_icmp .ge 12, 3) := by decide +kernel
theorem dX11_orderNow_137 : decode cX11_orderNow 137 = .ok (.lload 7, 2) := by decide +kernel
theorem dX11_orderNow_139 : decode cX11_orderNow 139 = .ok (.lload 4, 2) := by decide +kernel
theorem dX11_orderNow_141 : decode cX11_orderNow 141 = .ok (.iload_n 2, 1) := by decide +kernel
theorem dX11_orderNow_142 : decode cX11_orderNow 142 = .ok (.invokestatic 194, 3) := by decide +kernel
theorem dX11_orderNow_145 : decode cX11_orderNow 145 = .ok (.lreturn, 1) := by decide +kernel
theorem dX11_orderNow_146 : decode cX11_orderNow 146 = .ok (.iload_n 2, 1) := by decide +kernel
theorem dX11_orderNow_147 : decode cX11_orderNow 147 = .ok (.bipush 10, 2) := by decide +kernel
theorem dX11_orderNow_149 : decode cX11_orderNow 149 = .ok (.isub, 1) := by decide +kernel
theorem dX11_orderNow_150 : decode cX11_orderNow 150 = .ok (.aload_n 0, 1) := by decide +kernel
theorem dX11_orderNow_151 : decode cX11_orderNow 151 = .ok (.getfield 162, 3) := by decide +kernel
theorem dX11_orderNow_154 : decode cX11_orderNow 154 = .ok (.if_icmp .ge 16, 3) := by decide +kernel
theorem dX11_orderNow_157 : decode cX11_orderNow 157 = .ok (.aload_n 0, 1) := by decide +kernel
theorem dX11_orderNow_158 : decode cX11_orderNow 158 = .ok (.getfield 50, 3) := by decide +kernel
theorem dX11_orderNow_161 : decode cX11_orderNow 161 = .ok (.iload_n 2, 1) := by decide +kernel
theorem dX11_orderNow_162 : decode cX11_orderNow 162 = .ok (.bipush 10, 2) := by decide +kernel
theorem dX11_orderNow_164 : decode cX11_orderNow 164 = .ok (.isub, 1) := by decide +kernel
theorem dX11_orderNow_165 : decode cX11_orderNow 165 = .ok (.iaload, 1) := by decide +kernel
theorem dX11_orderNow_166 : decode cX11_orderNow 166 = .ok (.i2l, 1) := by decide +kernel
theorem dX11_orderNow_167 : decode cX11_orderNow 167 = .ok (.goto 6, 3) := by decide +kernel
theorem dX11_orderNow_170 : decode cX11_orderNow 170 = .ok (.ldc2_w 198, 3) := by decide +kernel
theorem dX11_orderNow_173 : decode cX11_orderNow 173 = .ok (.lreturn, 1) := by decide +kernel
theorem dX11_order_0 : decode cX11_order 0 = .ok (.aload_n 0, 1) := by decide +kernel
theorem dX11_order_1 : decode cX11_order 1 = .ok (.iload_n 1, 1) := by decide +kernel
theorem dX11_order_2 : decode cX11_order 2 = .ok (.invokevirtual 149, 3) := by decide +kernel
theorem dX11_order_5 : decode cX11_order 5 = .ok (.ifCond .ne 7, 3) := by decide +kernel
theorem dX11_order_8 : decode cX11_order 8 = .ok (.ldc2_w 200, 3) := by decide +kernel
theorem dX11_order_11 : decode cX11_order 11 = .ok (.lreturn, 1) := by decide +kernel
theorem dX11_order_12 : decode cX11_order 12 = .ok (.iload_n 2, 1) := by decide +kernel
theorem dX11_order_13 : decode cX11_order 13 = .ok (.iconst 0, 1) := by decide +kernel
theorem dX11_order_14 : decode cX11_order 14 = .ok (.iconst 1, 1) := by decide +kernel
theorem dX11_order_15 : decode cX11_order 15 = .ok (.invokestatic 77, 3) := by decide +kernel
theorem dX11_order_18 : decode cX11_order 18 = .ok (.ifCond .ne 18, 3) := by decide +kernel
theorem dX11_order_21 : decode cX11_order 21 = .ok (.iload_n 2, 1) := by decide +kernel
theorem dX11_order_22 : decode cX11_order 22 = .ok (.bipush 10, 2) := by decide +kernel
theorem dX11_order_24 : decode cX11_order 24 = .ok (.bipush 14, 2) := by decide +kernel
theorem dX11_order_26 : decode cX11_order 26 = .ok (.invokestatic 77, 3) := by decide +kernel
theorem dX11_order_29 : decode cX11_order 29 = .ok (.ifCond .ne 7, 3) := by decide +kernel
theorem dX11_order_32 : decode cX11_order 32 = .ok (.ldc2_w 202, 3) := by decide +kernel
theorem dX11_order_35 : decode cX11_order 35 = .ok (.lreturn, 1) := by decide +kernel
theorem dX11_order_36 : decode cX11_order 36 = .ok (.aload_n 0, 1) := by decide +kernel
theorem dX11_order_37 : decode cX11_order 37 = .ok (.getfield 204, 3) := by decide +kernel
theorem dX11_order_40 : decode cX11_order 40 = .ok (.bipush 20, 2) := by decide +kernel
theorem dX11_order_42 : decode cX11_order 42 = .ok (.if_icmp .ne 7, 3) := by decide +kernel
theorem dX11_order_45 : decode cX11_order 45 = .ok (.ldc2_w 207, 3) := by decide +kernel
theorem dX11_order_48 : decode cX11_order 48 = .ok (.lreturn, 1) := by decide +kernel
theorem dX11_order_49 : decode cX11_order 49 = .ok (.aload_n 0, 1) := by decide +kernel
theorem dX11_order_50 : decode cX11_order 50 = .ok (.dup, 1) := by decide +kernel
theorem dX11_order_51 : decode cX11_order 51 = .ok (.getfield 204, 3) := by decide +kernel
theorem dX11_order_54 : decode cX11_order 54 = .ok (.iconst 1, 1) := by decide +kernel
theorem dX11_order_55 : decode cX11_order 55 = .ok (.iadd, 1) := by decide +kernel
theorem dX11_order_56 : decode cX11_order 56 = .ok (.putfield 204, 3) := by decide +kernel
theorem dX11_order_59 : decode cX11_order 59 = .ok (.aload_n 0, 1) := by decide +kernel
theorem dX11_order_60 : decode cX11_order 60 = .ok (.iload_n 1, 1) := by decide +kernel
theorem dX11_order_61 : decode cX11_order 61 = .ok (.iload_n 2, 1) := by decide +kernel
theorem dX11_order_62 : decode cX11_order 62 = .ok (.invokevirtual 209, 3) := by decide +kernel
theorem dX11_order_65 : decode cX11_order 65 = .ok (.lreturn, 1) := by decide +kernel
theorem dX11_boyBy_0 : decode cX11_boyBy 0 = .ok (.iload_n 1, 1) := by decide +kernel
theorem dX11_boyBy_1 : decode cX11_boyBy 1 = .ok (.istore_n 3, 1) := by decide +kernel
theorem dX11_boyBy_2 : decode cX11_boyBy 2 = .ok (.aload_n 0, 1) := by decide +kernel
theorem dX11_boyBy_3 : decode cX11_boyBy 3 = .ok (.getfield 116, 3) := by decide +kernel
theorem dX11_boyBy_6 : decode cX11_boyBy 6 = .ok (.iconst 1, 1) := by decide +kernel
theorem dX11_boyBy_7 : decode cX11_boyBy 7 = .ok (.isub, 1) := by decide +kernel
theorem dX11_boyBy_8 : decode cX11_boyBy 8 = .ok (.istore 4, 2) := by decide +kernel
theorem dX11_boyBy_10 : decode cX11_boyBy 10 = .ok (.iload 4, 2) := by decide +kernel
theorem dX11_boyBy_12 : decode cX11_boyBy 12 = .ok (.iload_n 2, 1) := by decide +kernel
theorem dX11_boyBy_13 : decode cX11_boyBy 13 = .ok (.if_icmp .le 13, 3) := by decide +kernel
theorem dX11_boyBy_16 : decode cX11_boyBy 16 = .ok (.iload_n 3, 1) := by decide +kernel
theorem dX11_boyBy_17 : decode cX11_boyBy 17 = .ok (.iconst 3, 1) := by decide +kernel
theorem dX11_boyBy_18 : decode cX11_boyBy 18 = .ok (.idiv, 1) := by decide +kernel
theorem dX11_boyBy_19 : decode cX11_boyBy 19 = .ok (.istore_n 3, 1) := by decide +kernel
theorem dX11_boyBy_20 : decode cX11_boyBy 20 = .ok (.iinc 4 (-1), 3) := by decide +kernel
theorem dX11_boyBy_23 : decode cX11_boyBy 23 = .ok (.goto (-13), 3) := by decide +kernel
theorem dX11_boyBy_26 : decode cX11_boyBy 26 = .ok (.iload_n 3, 1) := by decide +kernel
theorem dX11_boyBy_27 : decode cX11_boyBy 27 = .ok (.iconst 3, 1) := by decide +kernel
theorem dX11_boyBy_28 : decode cX11_boyBy 28 = .ok (.irem, 1) := by decide +kernel
theorem dX11_boyBy_29 : decode cX11_boyBy 29 = .ok (.ireturn, 1) := by decide +kernel
theorem dX11_matchBy_0 : decode cX11_matchBy 0 = .ok (.iconst 0, 1) := by decide +kernel
theorem dX11_matchBy_1 : decode cX11_matchBy 1 = .ok (.istore_n 3, 1) := by decide +kernel
theorem dX11_matchBy_2 : decode cX11_matchBy 2 = .ok (.iconst 0, 1) := by decide +kernel
theorem dX11_matchBy_3 : decode cX11_matchBy 3 = .ok (.istore 4, 2) := by decide +kernel
theorem dX11_matchBy_5 : decode cX11_matchBy 5 = .ok (.iconst 0, 1) := by decide +kernel
theorem dX11_matchBy_6 : decode cX11_matchBy 6 = .ok (.istore 5, 2) := by decide +kernel
theorem dX11_matchBy_8 : decode cX11_matchBy 8 = .ok (.iload 5, 2) := by decide +kernel
theorem dX11_matchBy_10 : decode cX11_matchBy 10 = .ok (.aload_n 0, 1) := by decide +kernel
theorem dX11_matchBy_11 : decode cX11_matchBy 11 = .ok (.getfield 116, 3) := by decide +kernel
theorem dX11_matchBy_14 : decode cX11_matchBy 14 = .ok (.if_icmp .ge 71, 3) := by decide +kernel
theorem dX11_matchBy_17 : decode cX11_matchBy 17 = .ok (.aload_n 0, 1) := by decide +kernel
theorem dX11_matchBy_18 : decode cX11_matchBy 18 = .ok (.iload_n 2, 1) := by decide +kernel
theorem dX11_matchBy_19 : decode cX11_matchBy 19 = .ok (.iload 5, 2) := by decide +kernel
theorem dX11_matchBy_21 : decode cX11_matchBy 21 = .ok (.invokevirtual 212, 3) := by decide +kernel
theorem dX11_matchBy_24 : decode cX11_matchBy 24 = .ok (.istore 6, 2) := by decide +kernel
theorem dX11_matchBy_26 : decode cX11_matchBy 26 = .ok (.iload_n 3, 1) := by decide +kernel
theorem dX11_matchBy_27 : decode cX11_matchBy 27 = .ok (.iload 6, 2) := by decide +kernel
theorem dX11_matchBy_29 : decode cX11_matchBy 29 = .ok (.invokestatic 122, 3) := by decide +kernel
theorem dX11_matchBy_32 : decode cX11_matchBy 32 = .ok (.ifCond .eq 6, 3) := by decide +kernel
theorem dX11_matchBy_35 : decode cX11_matchBy 35 = .ok (.ldc 215, 2) := by decide +kernel
theorem dX11_matchBy_37 : decode cX11_matchBy 37 = .ok (.ireturn, 1) := by decide +kernel
theorem dX11_matchBy_38 : decode cX11_matchBy 38 = .ok (.iload_n 3, 1) := by decide +kernel
theorem dX11_matchBy_39 : decode cX11_matchBy 39 = .ok (.iconst 1, 1) := by decide +kernel
theorem dX11_matchBy_40 : decode cX11_matchBy 40 = .ok (.iload 6, 2) := by decide +kernel
theorem dX11_matchBy_42 : decode cX11_matchBy 42 = .ok (.ishl, 1) := by decide +kernel
theorem dX11_matchBy_43 : decode cX11_matchBy 43 = .ok (.ior, 1) := by decide +kernel
theorem dX11_matchBy_44 : decode cX11_matchBy 44 = .ok (.istore_n 3, 1) := by decide +kernel
theorem dX11_matchBy_45 : decode cX11_matchBy 45 = .ok (.iload 4, 2) := by decide +kernel
theorem dX11_matchBy_47 : decode cX11_matchBy 47 = .ok (.bipush 10, 2) := by decide +kernel
theorem dX11_matchBy_49 : decode cX11_matchBy 49 = .ok (.aload_n 0, 1) := by decide +kernel
theorem dX11_matchBy_50 : decode cX11_matchBy 50 = .ok (.iload 5, 2) := by decide +kernel
theorem dX11_matchBy_52 : decode cX11_matchBy 52 = .ok (.iload_n 1, 1) := by decide +kernel
theorem dX11_matchBy_53 : decode cX11_matchBy 53 = .ok (.aload_n 0, 1) := by decide +kernel
theorem dX11_matchBy_54 : decode cX11_matchBy 54 = .ok (.getfield 31, 3) := by decide +kernel
theorem dX11_matchBy_57 : decode cX11_matchBy 57 = .ok (.iconst 3, 1) := by decide +kernel
theorem dX11_matchBy_58 : decode cX11_matchBy 58 = .ok (.iload 5, 2) := by decide +kernel
theorem dX11_matchBy_60 : decode cX11_matchBy 60 = .ok (.imul, 1) := by decide +kernel
theorem dX11_matchBy_61 : decode cX11_matchBy 61 = .ok (.iload 6, 2) := by decide +kernel
theorem dX11_matchBy_63 : decode cX11_matchBy 63 = .ok (.iadd, 1) := by decide +kernel
theorem dX11_matchBy_64 : decode cX11_matchBy 64 = .ok (.iaload, 1) := by decide +kernel
theorem dX11_matchBy_65 : decode cX11_matchBy 65 = .ok (.invokevirtual 142, 3) := by decide +kernel
theorem dX11_matchBy_68 : decode cX11_matchBy 68 = .ok (.isub, 1) := by decide +kernel
theorem dX11_matchBy_69 : decode cX11_matchBy 69 = .ok (.aload_n 0, 1) := by decide +kernel
theorem dX11_matchBy_70 : decode cX11_matchBy 70 = .ok (.getfield 13, 3) := by decide +kernel
theorem dX11_matchBy_73 : decode cX11_matchBy 73 = .ok (.iload_n 1, 1) := by decide +kernel
theorem dX11_matchBy_74 : decode cX11_matchBy 74 = .ok (.iaload, 1) := by decide +kernel
theorem dX11_matchBy_75 : decode cX11_matchBy 75 = .ok (.imul, 1) := by decide +kernel
theorem dX11_matchBy_76 : decode cX11_matchBy 76 = .ok (.iadd, 1) := by decide +kernel
theorem dX11_matchBy_77 : decode cX11_matchBy 77 = .ok (.istore 4, 2) := by decide +kernel
theorem dX11_matchBy_79 : decode cX11_matchBy 79 = .ok (.iinc 5 1, 3) := by decide +kernel
theorem dX11_matchBy_82 : decode cX11_matchBy 82 = .ok (.goto (-74), 3) := by decide +kernel
theorem dX11_matchBy_85 : decode cX11_matchBy 85 = .ok (.iload 4, 2) := by decide +kernel
theorem dX11_matchBy_87 : decode cX11_matchBy 87 = .ok (.ireturn, 1) := by decide +kernel
theorem dX11_matchNow_0 : decode cX11_matchNow 0 = .ok (.iconst 1, 1) := by decide +kernel
theorem dX11_matchNow_1 : decode cX11_matchNow 1 = .ok (.istore_n 3, 1) := by decide +kernel
theorem dX11_matchNow_2 : decode cX11_matchNow 2 = .ok (.iconst 0, 1) := by decide +kernel
theorem dX11_matchNow_3 : decode cX11_matchNow 3 = .ok (.istore 4, 2) := by decide +kernel
theorem dX11_matchNow_5 : decode cX11_matchNow 5 = .ok (.iload 4, 2) := by decide +kernel
theorem dX11_matchNow_7 : decode cX11_matchNow 7 = .ok (.aload_n 0, 1) := by decide +kernel
theorem dX11_matchNow_8 : decode cX11_matchNow 8 = .ok (.getfield 116, 3) := by decide +kernel
theorem dX11_matchNow_11 : decode cX11_matchNow 11 = .ok (.if_icmp .ge 13, 3) := by decide +kernel
theorem dX11_matchNow_14 : decode cX11_matchNow 14 = .ok (.iload_n 3, 1) := by decide +kernel
theorem dX11_matchNow_15 : decode cX11_matchNow 15 = .ok (.iconst 3, 1) := by decide +kernel
theorem dX11_matchNow_16 : decode cX11_matchNow 16 = .ok (.imul, 1) := by decide +kernel
theorem dX11_matchNow_17 : decode cX11_matchNow 17 = .ok (.istore_n 3, 1) := by decide +kernel
theorem dX11_matchNow_18 : decode cX11_matchNow 18 = .ok (.iinc 4 1, 3) := by decide +kernel
theorem dX11_matchNow_21 : decode cX11_matchNow 21 = .ok (.goto (-16), 3) := by decide +kernel
theorem dX11_matchNow_24 : decode cX11_matchNow 24 = .ok (.iconst (-1), 1) := by decide +kernel
theorem dX11_matchNow_25 : decode cX11_matchNow 25 = .ok (.istore 4, 2) := by decide +kernel
theorem dX11_matchNow_27 : decode cX11_matchNow 27 = .ok (.ldc 215, 2) := by decide +kernel
theorem dX11_matchNow_29 : decode cX11_matchNow 29 = .ok (.istore 5, 2) := by decide +kernel
theorem dX11_matchNow_31 : decode cX11_matchNow 31 = .ok (.iconst 0, 1) := by decide +kernel
theorem dX11_matchNow_32 : decode cX11_matchNow 32 = .ok (.istore 6, 2) := by decide +kernel
theorem dX11_matchNow_34 : decode cX11_matchNow 34 = .ok (.iload 6, 2) := by decide +kernel
theorem dX11_matchNow_36 : decode cX11_matchNow 36 = .ok (.iload_n 3, 1) := by decide +kernel
theorem dX11_matchNow_37 : decode cX11_matchNow 37 = .ok (.if_icmp .ge 50, 3) := by decide +kernel
theorem dX11_matchNow_40 : decode cX11_matchNow 40 = .ok (.aload_n 0, 1) := by decide +kernel
theorem dX11_matchNow_41 : decode cX11_matchNow 41 = .ok (.iload_n 1, 1) := by decide +kernel
theorem dX11_matchNow_42 : decode cX11_matchNow 42 = .ok (.iload 6, 2) := by decide +kernel
theorem dX11_matchNow_44 : decode cX11_matchNow 44 = .ok (.invokevirtual 216, 3) := by decide +kernel
theorem dX11_matchNow_47 : decode cX11_matchNow 47 = .ok (.istore 7, 2) := by decide +kernel
theorem dX11_matchNow_49 : decode cX11_matchNow 49 = .ok (.iload 7, 2) := by decide +kernel
theorem dX11_matchNow_51 : decode cX11_matchNow 51 = .ok (.iload 5, 2) := by decide +kernel
theorem dX11_matchNow_53 : decode cX11_matchNow 53 = .ok (.if_icmp .ge 8, 3) := by decide +kernel
theorem dX11_matchNow_56 : decode cX11_matchNow 56 = .ok (.iload 6, 2) := by decide +kernel
theorem dX11_matchNow_58 : decode cX11_matchNow 58 = .ok (.goto 5, 3) := by decide +kernel
theorem dX11_matchNow_61 : decode cX11_matchNow 61 = .ok (.iload 4, 2) := by decide +kernel
theorem dX11_matchNow_63 : decode cX11_matchNow 63 = .ok (.istore 4, 2) := by decide +kernel
theorem dX11_matchNow_65 : decode cX11_matchNow 65 = .ok (.iload 7, 2) := by decide +kernel
theorem dX11_matchNow_67 : decode cX11_matchNow 67 = .ok (.iload 5, 2) := by decide +kernel
theorem dX11_matchNow_69 : decode cX11_matchNow 69 = .ok (.if_icmp .ge 8, 3) := by decide +kernel
theorem dX11_matchNow_72 : decode cX11_matchNow 72 = .ok (.iload 7, 2) := by decide +kernel
theorem dX11_matchNow_74 : decode cX11_matchNow 74 = .ok (.goto 5, 3) := by decide +kernel
theorem dX11_matchNow_77 : decode cX11_matchNow 77 = .ok (.iload 5, 2) := by decide +kernel
theorem dX11_matchNow_79 : decode cX11_matchNow 79 = .ok (.istore 5, 2) := by decide +kernel
theorem dX11_matchNow_81 : decode cX11_matchNow 81 = .ok (.iinc 6 1, 3) := by decide +kernel
theorem dX11_matchNow_84 : decode cX11_matchNow 84 = .ok (.goto (-50), 3) := by decide +kernel
theorem dX11_matchNow_87 : decode cX11_matchNow 87 = .ok (.iload_n 2, 1) := by decide +kernel
theorem dX11_matchNow_88 : decode cX11_matchNow 88 = .ok (.iconst 2, 1) := by decide +kernel
theorem dX11_matchNow_89 : decode cX11_matchNow 89 = .ok (.if_icmp .ge 15, 3) := by decide +kernel
theorem dX11_matchNow_92 : decode cX11_matchNow 92 = .ok (.iload 5, 2) := by decide +kernel
theorem dX11_matchNow_94 : decode cX11_matchNow 94 = .ok (.i2l, 1) := by decide +kernel
theorem dX11_matchNow_95 : decode cX11_matchNow 95 = .ok (.ldc2_w 185, 3) := by decide +kernel
theorem dX11_matchNow_98 : decode cX11_matchNow 98 = .ok (.iload_n 2, 1) := by decide +kernel
theorem dX11_matchNow_99 : decode cX11_matchNow 99 = .ok (.invokestatic 194, 3) := by decide +kernel
theorem dX11_matchNow_102 : decode cX11_matchNow 102 = .ok (.l2i, 1) := by decide +kernel
theorem dX11_matchNow_103 : decode cX11_matchNow 103 = .ok (.ireturn, 1) := by decide +kernel
theorem dX11_matchNow_104 : decode cX11_matchNow 104 = .ok (.aload_n 0, 1) := by decide +kernel
theorem dX11_matchNow_105 : decode cX11_matchNow 105 = .ok (.iload_n 2, 1) := by decide +kernel
theorem dX11_matchNow_106 : decode cX11_matchNow 106 = .ok (.bipush 10, 2) := by decide +kernel
theorem dX11_matchNow_108 : decode cX11_matchNow 108 = .ok (.isub, 1) := by decide +kernel
theorem dX11_matchNow_109 : decode cX11_matchNow 109 = .ok (.invokevirtual 149, 3) := by decide +kernel
theorem dX11_matchNow_112 : decode cX11_matchNow 112 = .ok (.ifCond .eq 16, 3) := by decide +kernel
theorem dX11_matchNow_115 : decode cX11_matchNow 115 = .ok (.aload_n 0, 1) := by decide +kernel
theorem dX11_matchNow_116 : decode cX11_matchNow 116 = .ok (.iload 4, 2) := by decide +kernel
theorem dX11_matchNow_118 : decode cX11_matchNow 118 = .ok (.iload_n 2, 1) := by decide +kernel
theorem dX11_matchNow_119 : decode cX11_matchNow 119 = .ok (.bipush 10, 2) := by decide +kernel
theorem dX11_matchNow_121 : decode cX11_matchNow 121 = .ok (.isub, 1) := by decide +kernel
theorem dX11_matchNow_122 : decode cX11_matchNow 122 = .ok (.invokevirtual 212, 3) := by decide +kernel
theorem dX11_matchNow_125 : decode cX11_matchNow 125 = .ok (.goto 4, 3) := by decide +kernel
theorem dX11_matchNow_128 : decode cX11_matchNow 128 = .ok (.iconst (-1), 1) := by decide +kernel
theorem dX11_matchNow_129 : decode cX11_matchNow 129 = .ok (.ireturn, 1) := by decide +kernel
theorem dX11_match_0 : decode cX11_match 0 = .ok (.aload_n 0, 1) := by decide +kernel
theorem dX11_match_1 : decode cX11_match 1 = .ok (.iload_n 1, 1) := by decide +kernel
theorem dX11_match_2 : decode cX11_match 2 = .ok (.invokevirtual 128, 3) := by decide +kernel
theorem dX11_match_5 : decode cX11_match 5 = .ok (.ifCond .ne 6, 3) := by decide +kernel
theorem dX11_match_8 : decode cX11_match 8 = .ok (.bipush (-101), 2) := by decide +kernel
theorem dX11_match_10 : decode cX11_match 10 = .ok (.ireturn, 1) := by decide +kernel
theorem dX11_match_11 : decode cX11_match 11 = .ok (.iload_n 2, 1) := by decide +kernel
theorem dX11_match_12 : decode cX11_match 12 = .ok (.iconst 0, 1) := by decide +kernel
theorem dX11_match_13 : decode cX11_match 13 = .ok (.iconst 1, 1) := by decide +kernel
theorem dX11_match_14 : decode cX11_match 14 = .ok (.invokestatic 77, 3) := by decide +kernel
theorem dX11_match_17 : decode cX11_match 17 = .ok (.ifCond .ne 14, 3) := by decide +kernel
theorem dX11_match_20 : decode cX11_match 20 = .ok (.iload_n 2, 1) := by decide +kernel
theorem dX11_match_21 : decode cX11_match 21 = .ok (.bipush 10, 2) := by decide +kernel
theorem dX11_match_23 : decode cX11_match 23 = .ok (.bipush 12, 2) := by decide +kernel
theorem dX11_match_25 : decode cX11_match 25 = .ok (.invokestatic 77, 3) := by decide +kernel
theorem dX11_match_28 : decode cX11_match 28 = .ok (.ifCond .eq 12, 3) := by decide +kernel
theorem dX11_match_31 : decode cX11_match 31 = .ok (.aload_n 0, 1) := by decide +kernel
theorem dX11_match_32 : decode cX11_match 32 = .ok (.iload_n 1, 1) := by decide +kernel
theorem dX11_match_33 : decode cX11_match 33 = .ok (.iload_n 2, 1) := by decide +kernel
theorem dX11_match_34 : decode cX11_match 34 = .ok (.invokevirtual 219, 3) := by decide +kernel
theorem dX11_match_37 : decode cX11_match 37 = .ok (.goto 5, 3) := by decide +kernel
theorem dX11_match_40 : decode cX11_match 40 = .ok (.bipush (-102), 2) := by decide +kernel
theorem dX11_match_42 : decode cX11_match 42 = .ok (.ireturn, 1) := by decide +kernel
theorem dX11_couldFail_0 : decode cX11_couldFail 0 = .ok (.aload_n 0, 1) := by decide +kernel
theorem dX11_couldFail_1 : decode cX11_couldFail 1 = .ok (.iload_n 1, 1) := by decide +kernel
theorem dX11_couldFail_2 : decode cX11_couldFail 2 = .ok (.invokevirtual 171, 3) := by decide +kernel
theorem dX11_couldFail_5 : decode cX11_couldFail 5 = .ok (.iconst 1, 1) := by decide +kernel
theorem dX11_couldFail_6 : decode cX11_couldFail 6 = .ok (.istore 4, 2) := by decide +kernel
theorem dX11_couldFail_8 : decode cX11_couldFail 8 = .ok (.iconst 0, 1) := by decide +kernel
theorem dX11_couldFail_9 : decode cX11_couldFail 9 = .ok (.istore 5, 2) := by decide +kernel
theorem dX11_couldFail_11 : decode cX11_couldFail 11 = .ok (.iconst 0, 1) := by decide +kernel
theorem dX11_couldFail_12 : decode cX11_couldFail 12 = .ok (.istore 6, 2) := by decide +kernel
theorem dX11_couldFail_14 : decode cX11_couldFail 14 = .ok (.iload 6, 2) := by decide +kernel
theorem dX11_couldFail_16 : decode cX11_couldFail 16 = .ok (.aload_n 0, 1) := by decide +kernel
theorem dX11_couldFail_17 : decode cX11_couldFail 17 = .ok (.getfield 162, 3) := by decide +kernel
theorem dX11_couldFail_20 : decode cX11_couldFail 20 = .ok (.if_icmp .ge 94, 3) := by decide +kernel
theorem dX11_couldFail_23 : decode cX11_couldFail 23 = .ok (.iload_n 2, 1) := by decide +kernel
theorem dX11_couldFail_24 : decode cX11_couldFail 24 = .ok (.aload_n 0, 1) := by decide +kernel
theorem dX11_couldFail_25 : decode cX11_couldFail 25 = .ok (.getfield 47, 3) := by decide +kernel
theorem dX11_couldFail_28 : decode cX11_couldFail 28 = .ok (.iload 6, 2) := by decide +kernel
theorem dX11_couldFail_30 : decode cX11_couldFail 30 = .ok (.iaload, 1) := by decide +kernel
theorem dX11_couldFail_31 : decode cX11_couldFail 31 = .ok (.invokestatic 122, 3) := by decide +kernel
theorem dX11_couldFail_34 : decode cX11_couldFail 34 = .ok (.istore 7, 2) := by decide +kernel
theorem dX11_couldFail_36 : decode cX11_couldFail 36 = .ok (.iload 4, 2) := by decide +kernel
theorem dX11_couldFail_38 : decode cX11_couldFail 38 = .ok (.ifCond .eq 33, 3) := by decide +kernel
theorem dX11_couldFail_41 : decode cX11_couldFail 41 = .ok (.aload_n 0, 1) := by decide +kernel
theorem dX11_couldFail_42 : decode cX11_couldFail 42 = .ok (.iload_n 1, 1) := by decide +kernel
theorem dX11_couldFail_43 : decode cX11_couldFail 43 = .ok (.aload_n 0, 1) := by decide +kernel
theorem dX11_couldFail_44 : decode cX11_couldFail 44 = .ok (.getfield 47, 3) := by decide +kernel
theorem dX11_couldFail_47 : decode cX11_couldFail 47 = .ok (.iload 6, 2) := by decide +kernel
theorem dX11_couldFail_49 : decode cX11_couldFail 49 = .ok (.iaload, 1) := by decide +kernel
theorem dX11_couldFail_50 : decode cX11_couldFail 50 = .ok (.invokevirtual 155, 3) := by decide +kernel
theorem dX11_couldFail_53 : decode cX11_couldFail 53 = .ok (.iload 7, 2) := by decide +kernel
theorem dX11_couldFail_55 : decode cX11_couldFail 55 = .ok (.ifCond .eq 8, 3) := by decide +kernel
theorem dX11_couldFail_58 : decode cX11_couldFail 58 = .ok (.bipush 10, 2) := by decide +kernel
theorem dX11_couldFail_60 : decode cX11_couldFail 60 = .ok (.goto 4, 3) := by decide +kernel
theorem dX11_couldFail_63 : decode cX11_couldFail 63 = .ok (.iconst 0, 1) := by decide +kernel
theorem dX11_couldFail_64 : decode cX11_couldFail 64 = .ok (.if_icmp .eq 7, 3) := by decide +kernel
theorem dX11_couldFail_67 : decode cX11_couldFail 67 = .ok (.iconst 1, 1) := by decide +kernel
theorem dX11_couldFail_68 : decode cX11_couldFail 68 = .ok (.goto 4, 3) := by decide +kernel
theorem dX11_couldFail_71 : decode cX11_couldFail 71 = .ok (.iconst 0, 1) := by decide +kernel
theorem dX11_couldFail_72 : decode cX11_couldFail 72 = .ok (.istore 4, 2) := by decide +kernel
theorem dX11_couldFail_74 : decode cX11_couldFail 74 = .ok (.iload 7, 2) := by decide +kernel
theorem dX11_couldFail_76 : decode cX11_couldFail 76 = .ok (.ifCond .eq 32, 3) := by decide +kernel
theorem dX11_couldFail_79 : decode cX11_couldFail 79 = .ok (.iload 5, 2) := by decide +kernel
theorem dX11_couldFail_81 : decode cX11_couldFail 81 = .ok (.aload_n 0, 1) := by decide +kernel
theorem dX11_couldFail_82 : decode cX11_couldFail 82 = .ok (.getfield 13, 3) := by decide +kernel
theorem dX11_couldFail_85 : decode cX11_couldFail 85 = .ok (.aload_n 0, 1) := by decide +kernel
theorem dX11_couldFail_86 : decode cX11_couldFail 86 = .ok (.getfield 47, 3) := by decide +kernel
theorem dX11_couldFail_89 : decode cX11_couldFail 89 = .ok (.iload 6, 2) := by decide +kernel
theorem dX11_couldFail_91 : decode cX11_couldFail 91 = .ok (.iaload, 1) := by decide +kernel
theorem dX11_couldFail_92 : decode cX11_couldFail 92 = .ok (.iaload, 1) := by decide +kernel
theorem dX11_couldFail_93 : decode cX11_couldFail 93 = .ok (.iadd, 1) := by decide +kernel
theorem dX11_couldFail_94 : decode cX11_couldFail 94 = .ok (.istore 5, 2) := by decide +kernel
theorem dX11_couldFail_96 : decode cX11_couldFail 96 = .ok (.aload_n 0, 1) := by decide +kernel
theorem dX11_couldFail_97 : decode cX11_couldFail 97 = .ok (.iload_n 1, 1) := by decide +kernel
theorem dX11_couldFail_98 : decode cX11_couldFail 98 = .ok (.aload_n 0, 1) := by decide +kernel
theorem dX11_couldFail_99 : decode cX11_couldFail 99 = .ok (.getfield 47, 3) := by decide +kernel
theorem dX11_couldFail_102 : decode cX11_couldFail 102 = .ok (.iload 6, 2) := by decide +kernel
theorem dX11_couldFail_104 : decode cX11_couldFail 104 = .ok (.iaload, 1) := by decide +kernel
theorem dX11_couldFail_105 : decode cX11_couldFail 105 = .ok (.invokevirtual 158, 3) := by decide +kernel
theorem dX11_couldFail_108 : decode cX11_couldFail 108 = .ok (.iinc 6 1, 3) := by decide +kernel
theorem dX11_couldFail_111 : decode cX11_couldFail 111 = .ok (.goto (-97), 3) := by decide +kernel
theorem dX11_couldFail_114 : decode cX11_couldFail 114 = .ok (.aload_n 0, 1) := by decide +kernel
theorem dX11_couldFail_115 : decode cX11_couldFail 115 = .ok (.iload_n 1, 1) := by decide +kernel
theorem dX11_couldFail_116 : decode cX11_couldFail 116 = .ok (.invokevirtual 175, 3) := by decide +kernel
theorem dX11_couldFail_119 : decode cX11_couldFail 119 = .ok (.iload 4, 2) := by decide +kernel
theorem dX11_couldFail_121 : decode cX11_couldFail 121 = .ok (.ifCond .eq 13, 3) := by decide +kernel
theorem dX11_couldFail_124 : decode cX11_couldFail 124 = .ok (.iload 5, 2) := by decide +kernel
theorem dX11_couldFail_126 : decode cX11_couldFail 126 = .ok (.iload_n 3, 1) := by decide +kernel
theorem dX11_couldFail_127 : decode cX11_couldFail 127 = .ok (.if_icmp .ne 7, 3) := by decide +kernel
theorem dX11_couldFail_130 : decode cX11_couldFail 130 = .ok (.iconst 1, 1) := by decide +kernel
theorem dX11_couldFail_131 : decode cX11_couldFail 131 = .ok (.goto 4, 3) := by decide +kernel
theorem dX11_couldFail_134 : decode cX11_couldFail 134 = .ok (.iconst 0, 1) := by decide +kernel
theorem dX11_couldFail_135 : decode cX11_couldFail 135 = .ok (.ireturn, 1) := by decide +kernel
theorem dX11_faultsNow_0 : decode cX11_faultsNow 0 = .ok (.aload_n 0, 1) := by decide +kernel
theorem dX11_faultsNow_1 : decode cX11_faultsNow 1 = .ok (.iload_n 1, 1) := by decide +kernel
theorem dX11_faultsNow_2 : decode cX11_faultsNow 2 = .ok (.invokevirtual 182, 3) := by decide +kernel
theorem dX11_faultsNow_5 : decode cX11_faultsNow 5 = .ok (.iconst 0, 1) := by decide +kernel
theorem dX11_faultsNow_6 : decode cX11_faultsNow 6 = .ok (.istore 4, 2) := by decide +kernel
theorem dX11_faultsNow_8 : decode cX11_faultsNow 8 = .ok (.bipush 31, 2) := by decide +kernel
theorem dX11_faultsNow_10 : decode cX11_faultsNow 10 = .ok (.istore 5, 2) := by decide +kernel
theorem dX11_faultsNow_12 : decode cX11_faultsNow 12 = .ok (.iconst 0, 1) := by decide +kernel
theorem dX11_faultsNow_13 : decode cX11_faultsNow 13 = .ok (.istore 6, 2) := by decide +kernel
theorem dX11_faultsNow_15 : decode cX11_faultsNow 15 = .ok (.iload 6, 2) := by decide +kernel
theorem dX11_faultsNow_17 : decode cX11_faultsNow 17 = .ok (.iconst 1, 1) := by decide +kernel
theorem dX11_faultsNow_18 : decode cX11_faultsNow 18 = .ok (.aload_n 0, 1) := by decide +kernel
theorem dX11_faultsNow_19 : decode cX11_faultsNow 19 = .ok (.getfield 107, 3) := by decide +kernel
theorem dX11_faultsNow_22 : decode cX11_faultsNow 22 = .ok (.ishl, 1) := by decide +kernel
theorem dX11_faultsNow_23 : decode cX11_faultsNow 23 = .ok (.if_icmp .ge 42, 3) := by decide +kernel
theorem dX11_faultsNow_26 : decode cX11_faultsNow 26 = .ok (.iload 6, 2) := by decide +kernel
theorem dX11_faultsNow_28 : decode cX11_faultsNow 28 = .ok (.aload_n 0, 1) := by decide +kernel
theorem dX11_faultsNow_29 : decode cX11_faultsNow 29 = .ok (.getfield 28, 3) := by decide +kernel
theorem dX11_faultsNow_32 : decode cX11_faultsNow 32 = .ok (.iload_n 1, 1) := by decide +kernel
theorem dX11_faultsNow_33 : decode cX11_faultsNow 33 = .ok (.iaload, 1) := by decide +kernel
theorem dX11_faultsNow_34 : decode cX11_faultsNow 34 = .ok (.iand, 1) := by decide +kernel
theorem dX11_faultsNow_35 : decode cX11_faultsNow 35 = .ok (.ifCond .ne 24, 3) := by decide +kernel
theorem dX11_faultsNow_38 : decode cX11_faultsNow 38 = .ok (.aload_n 0, 1) := by decide +kernel
theorem dX11_faultsNow_39 : decode cX11_faultsNow 39 = .ok (.iload_n 1, 1) := by decide +kernel
theorem dX11_faultsNow_40 : decode cX11_faultsNow 40 = .ok (.iload 6, 2) := by decide +kernel
theorem dX11_faultsNow_42 : decode cX11_faultsNow 42 = .ok (.iload_n 2, 1) := by decide +kernel
theorem dX11_faultsNow_43 : decode cX11_faultsNow 43 = .ok (.invokevirtual 222, 3) := by decide +kernel
theorem dX11_faultsNow_46 : decode cX11_faultsNow 46 = .ok (.ifCond .eq 13, 3) := by decide +kernel
theorem dX11_faultsNow_49 : decode cX11_faultsNow 49 = .ok (.iinc 4 1, 3) := by decide +kernel
theorem dX11_faultsNow_52 : decode cX11_faultsNow 52 = .ok (.iload 5, 2) := by decide +kernel
theorem dX11_faultsNow_54 : decode cX11_faultsNow 54 = .ok (.iload 6, 2) := by decide +kernel
theorem dX11_faultsNow_56 : decode cX11_faultsNow 56 = .ok (.iand, 1) := by decide +kernel
theorem dX11_faultsNow_57 : decode cX11_faultsNow 57 = .ok (.istore 5, 2) := by decide +kernel
theorem dX11_faultsNow_59 : decode cX11_faultsNow 59 = .ok (.iinc 6 1, 3) := by decide +kernel
theorem dX11_faultsNow_62 : decode cX11_faultsNow 62 = .ok (.goto (-47), 3) := by decide +kernel
theorem dX11_faultsNow_65 : decode cX11_faultsNow 65 = .ok (.iload_n 3, 1) := by decide +kernel
theorem dX11_faultsNow_66 : decode cX11_faultsNow 66 = .ok (.ifCond .ne 8, 3) := by decide +kernel
theorem dX11_faultsNow_69 : decode cX11_faultsNow 69 = .ok (.iload 4, 2) := by decide +kernel
theorem dX11_faultsNow_71 : decode cX11_faultsNow 71 = .ok (.goto 14, 3) := by decide +kernel
theorem dX11_faultsNow_74 : decode cX11_faultsNow 74 = .ok (.iload 4, 2) := by decide +kernel
theorem dX11_faultsNow_76 : decode cX11_faultsNow 76 = .ok (.ifCond .ne 7, 3) := by decide +kernel
theorem dX11_faultsNow_79 : decode cX11_faultsNow 79 = .ok (.iconst (-1), 1) := by decide +kernel
theorem dX11_faultsNow_80 : decode cX11_faultsNow 80 = .ok (.goto 5, 3) := by decide +kernel
theorem dX11_faultsNow_83 : decode cX11_faultsNow 83 = .ok (.iload 5, 2) := by decide +kernel
theorem dX11_faultsNow_85 : decode cX11_faultsNow 85 = .ok (.ireturn, 1) := by decide +kernel
theorem dX11_faults_0 : decode cX11_faults 0 = .ok (.aload_n 0, 1) := by decide +kernel
theorem dX11_faults_1 : decode cX11_faults 1 = .ok (.iload_n 1, 1) := by decide +kernel
theorem dX11_faults_2 : decode cX11_faults 2 = .ok (.invokevirtual 149, 3) := by decide +kernel
theorem dX11_faults_5 : decode cX11_faults 5 = .ok (.ifCond .ne 6, 3) := by decide +kernel
theorem dX11_faults_8 : decode cX11_faults 8 = .ok (.bipush (-101), 2) := by decide +kernel
theorem dX11_faults_10 : decode cX11_faults 10 = .ok (.ireturn, 1) := by decide +kernel
theorem dX11_faults_11 : decode cX11_faults 11 = .ok (.iload_n 2, 1) := by decide +kernel
theorem dX11_faults_12 : decode cX11_faults 12 = .ok (.iconst 0, 1) := by decide +kernel
theorem dX11_faults_13 : decode cX11_faults 13 = .ok (.bipush 25, 2) := by decide +kernel
theorem dX11_faults_15 : decode cX11_faults 15 = .ok (.invokestatic 77, 3) := by decide +kernel
theorem dX11_faults_18 : decode cX11_faults 18 = .ok (.ifCond .eq 22, 3) := by decide +kernel
theorem dX11_faults_21 : decode cX11_faults 21 = .ok (.iload_n 3, 1) := by decide +kernel
theorem dX11_faults_22 : decode cX11_faults 22 = .ok (.iconst 0, 1) := by decide +kernel
theorem dX11_faults_23 : decode cX11_faults 23 = .ok (.iconst 1, 1) := by decide +kernel
theorem dX11_faults_24 : decode cX11_faults 24 = .ok (.invokestatic 77, 3) := by decide +kernel
theorem dX11_faults_27 : decode cX11_faults 27 = .ok (.ifCond .eq 13, 3) := by decide +kernel
theorem dX11_faults_30 : decode cX11_faults 30 = .ok (.aload_n 0, 1) := by decide +kernel
theorem dX11_faults_31 : decode cX11_faults 31 = .ok (.iload_n 1, 1) := by decide +kernel
theorem dX11_faults_32 : decode cX11_faults 32 = .ok (.iload_n 2, 1) := by decide +kernel
theorem dX11_faults_33 : decode cX11_faults 33 = .ok (.iload_n 3, 1) := by decide +kernel
theorem dX11_faults_34 : decode cX11_faults 34 = .ok (.invokevirtual 225, 3) := by decide +kernel
theorem dX11_faults_37 : decode cX11_faults 37 = .ok (.goto 5, 3) := by decide +kernel
theorem dX11_faults_40 : decode cX11_faults 40 = .ok (.bipush (-102), 2) := by decide +kernel
theorem dX11_faults_42 : decode cX11_faults 42 = .ok (.ireturn, 1) := by decide +kernel
theorem dX11_hear_0 : decode cX11_hear 0 = .ok (.aload_n 0, 1) := by decide +kernel
theorem dX11_hear_1 : decode cX11_hear 1 = .ok (.iload_n 1, 1) := by decide +kernel
theorem dX11_hear_2 : decode cX11_hear 2 = .ok (.invokevirtual 149, 3) := by decide +kernel
theorem dX11_hear_5 : decode cX11_hear 5 = .ok (.ifCond .eq 11, 3) := by decide +kernel
theorem dX11_hear_8 : decode cX11_hear 8 = .ok (.aload_n 0, 1) := by decide +kernel
theorem dX11_hear_9 : decode cX11_hear 9 = .ok (.iload_n 2, 1) := by decide +kernel
theorem dX11_hear_10 : decode cX11_hear 10 = .ok (.invokevirtual 128, 3) := by decide +kernel
theorem dX11_hear_13 : decode cX11_hear 13 = .ok (.ifCond .ne 6, 3) := by decide +kernel
theorem dX11_hear_16 : decode cX11_hear 16 = .ok (.bipush (-101), 2) := by decide +kernel
theorem dX11_hear_18 : decode cX11_hear 18 = .ok (.ireturn, 1) := by decide +kernel
theorem dX11_hear_19 : decode cX11_hear 19 = .ok (.aload_n 0, 1) := by decide +kernel
theorem dX11_hear_20 : decode cX11_hear 20 = .ok (.getfield 119, 3) := by decide +kernel
theorem dX11_hear_23 : decode cX11_hear 23 = .ok (.bipush 6, 2) := by decide +kernel
theorem dX11_hear_25 : decode cX11_hear 25 = .ok (.if_icmp .ne 6, 3) := by decide +kernel
theorem dX11_hear_28 : decode cX11_hear 28 = .ok (.bipush (-104), 2) := by decide +kernel
theorem dX11_hear_30 : decode cX11_hear 30 = .ok (.ireturn, 1) := by decide +kernel
theorem dX11_hear_31 : decode cX11_hear 31 = .ok (.aload_n 0, 1) := by decide +kernel
theorem dX11_hear_32 : decode cX11_hear 32 = .ok (.getfield 34, 3) := by decide +kernel
theorem dX11_hear_35 : decode cX11_hear 35 = .ok (.aload_n 0, 1) := by decide +kernel
theorem dX11_hear_36 : decode cX11_hear 36 = .ok (.getfield 119, 3) := by decide +kernel
theorem dX11_hear_39 : decode cX11_hear 39 = .ok (.iload_n 1, 1) := by decide +kernel
theorem dX11_hear_40 : decode cX11_hear 40 = .ok (.iastore, 1) := by decide +kernel
theorem dX11_hear_41 : decode cX11_hear 41 = .ok (.aload_n 0, 1) := by decide +kernel
theorem dX11_hear_42 : decode cX11_hear 42 = .ok (.getfield 37, 3) := by decide +kernel
theorem dX11_hear_45 : decode cX11_hear 45 = .ok (.aload_n 0, 1) := by decide +kernel
theorem dX11_hear_46 : decode cX11_hear 46 = .ok (.getfield 119, 3) := by decide +kernel
theorem dX11_hear_49 : decode cX11_hear 49 = .ok (.iload_n 2, 1) := by decide +kernel
theorem dX11_hear_50 : decode cX11_hear 50 = .ok (.iastore, 1) := by decide +kernel
theorem dX11_hear_51 : decode cX11_hear 51 = .ok (.aload_n 0, 1) := by decide +kernel
theorem dX11_hear_52 : decode cX11_hear 52 = .ok (.getfield 40, 3) := by decide +kernel
theorem dX11_hear_55 : decode cX11_hear 55 = .ok (.aload_n 0, 1) := by decide +kernel
theorem dX11_hear_56 : decode cX11_hear 56 = .ok (.getfield 119, 3) := by decide +kernel
theorem dX11_hear_59 : decode cX11_hear 59 = .ok (.iload_n 3, 1) := by decide +kernel
theorem dX11_hear_60 : decode cX11_hear 60 = .ok (.ifCond .eq 7, 3) := by decide +kernel
theorem dX11_hear_63 : decode cX11_hear 63 = .ok (.iconst 1, 1) := by decide +kernel
theorem dX11_hear_64 : decode cX11_hear 64 = .ok (.goto 4, 3) := by decide +kernel
theorem dX11_hear_67 : decode cX11_hear 67 = .ok (.iconst 0, 1) := by decide +kernel
theorem dX11_hear_68 : decode cX11_hear 68 = .ok (.iastore, 1) := by decide +kernel
theorem dX11_hear_69 : decode cX11_hear 69 = .ok (.aload_n 0, 1) := by decide +kernel
theorem dX11_hear_70 : decode cX11_hear 70 = .ok (.dup, 1) := by decide +kernel
theorem dX11_hear_71 : decode cX11_hear 71 = .ok (.getfield 119, 3) := by decide +kernel
theorem dX11_hear_74 : decode cX11_hear 74 = .ok (.iconst 1, 1) := by decide +kernel
theorem dX11_hear_75 : decode cX11_hear 75 = .ok (.iadd, 1) := by decide +kernel
theorem dX11_hear_76 : decode cX11_hear 76 = .ok (.putfield 119, 3) := by decide +kernel
theorem dX11_hear_79 : decode cX11_hear 79 = .ok (.aload_n 0, 1) := by decide +kernel
theorem dX11_hear_80 : decode cX11_hear 80 = .ok (.getfield 119, 3) := by decide +kernel
theorem dX11_hear_83 : decode cX11_hear 83 = .ok (.ireturn, 1) := by decide +kernel
theorem dX11_forget_0 : decode cX11_forget 0 = .ok (.aload_n 0, 1) := by decide +kernel
theorem dX11_forget_1 : decode cX11_forget 1 = .ok (.getfield 119, 3) := by decide +kernel
theorem dX11_forget_4 : decode cX11_forget 4 = .ok (.istore_n 1, 1) := by decide +kernel
theorem dX11_forget_5 : decode cX11_forget 5 = .ok (.aload_n 0, 1) := by decide +kernel
theorem dX11_forget_6 : decode cX11_forget 6 = .ok (.iconst 0, 1) := by decide +kernel
theorem dX11_forget_7 : decode cX11_forget 7 = .ok (.putfield 119, 3) := by decide +kernel
theorem dX11_forget_10 : decode cX11_forget 10 = .ok (.iload_n 1, 1) := by decide +kernel
theorem dX11_forget_11 : decode cX11_forget 11 = .ok (.ireturn, 1) := by decide +kernel
theorem dX11_couldBe_0 : decode cX11_couldBe 0 = .ok (.iconst 1, 1) := by decide +kernel
theorem dX11_couldBe_1 : decode cX11_couldBe 1 = .ok (.istore_n 3, 1) := by decide +kernel
theorem dX11_couldBe_2 : decode cX11_couldBe 2 = .ok (.iconst 0, 1) := by decide +kernel
theorem dX11_couldBe_3 : decode cX11_couldBe 3 = .ok (.istore 4, 2) := by decide +kernel
theorem dX11_couldBe_5 : decode cX11_couldBe 5 = .ok (.iload 4, 2) := by decide +kernel
theorem dX11_couldBe_7 : decode cX11_couldBe 7 = .ok (.aload_n 0, 1) := by decide +kernel
theorem dX11_couldBe_8 : decode cX11_couldBe 8 = .ok (.getfield 119, 3) := by decide +kernel
theorem dX11_couldBe_11 : decode cX11_couldBe 11 = .ok (.if_icmp .ge 71, 3) := by decide +kernel
theorem dX11_couldBe_14 : decode cX11_couldBe 14 = .ok (.aload_n 0, 1) := by decide +kernel
theorem dX11_couldBe_15 : decode cX11_couldBe 15 = .ok (.getfield 34, 3) := by decide +kernel
theorem dX11_couldBe_18 : decode cX11_couldBe 18 = .ok (.iload 4, 2) := by decide +kernel
theorem dX11_couldBe_20 : decode cX11_couldBe 20 = .ok (.iaload, 1) := by decide +kernel
theorem dX11_couldBe_21 : decode cX11_couldBe 21 = .ok (.iload_n 1, 1) := by decide +kernel
theorem dX11_couldBe_22 : decode cX11_couldBe 22 = .ok (.if_icmp .ne 19, 3) := by decide +kernel
theorem dX11_couldBe_25 : decode cX11_couldBe 25 = .ok (.aload_n 0, 1) := by decide +kernel
theorem dX11_couldBe_26 : decode cX11_couldBe 26 = .ok (.iload_n 1, 1) := by decide +kernel
theorem dX11_couldBe_27 : decode cX11_couldBe 27 = .ok (.aload_n 0, 1) := by decide +kernel
theorem dX11_couldBe_28 : decode cX11_couldBe 28 = .ok (.getfield 37, 3) := by decide +kernel
theorem dX11_couldBe_31 : decode cX11_couldBe 31 = .ok (.iload 4, 2) := by decide +kernel
theorem dX11_couldBe_33 : decode cX11_couldBe 33 = .ok (.iaload, 1) := by decide +kernel
theorem dX11_couldBe_34 : decode cX11_couldBe 34 = .ok (.iload_n 2, 1) := by decide +kernel
theorem dX11_couldBe_35 : decode cX11_couldBe 35 = .ok (.invokevirtual 142, 3) := by decide +kernel
theorem dX11_couldBe_38 : decode cX11_couldBe 38 = .ok (.goto 4, 3) := by decide +kernel
theorem dX11_couldBe_41 : decode cX11_couldBe 41 = .ok (.iconst 5, 1) := by decide +kernel
theorem dX11_couldBe_42 : decode cX11_couldBe 42 = .ok (.istore 5, 2) := by decide +kernel
theorem dX11_couldBe_44 : decode cX11_couldBe 44 = .ok (.iload_n 3, 1) := by decide +kernel
theorem dX11_couldBe_45 : decode cX11_couldBe 45 = .ok (.ifCond .eq 29, 3) := by decide +kernel
theorem dX11_couldBe_48 : decode cX11_couldBe 48 = .ok (.iload 5, 2) := by decide +kernel
theorem dX11_couldBe_50 : decode cX11_couldBe 50 = .ok (.aload_n 0, 1) := by decide +kernel
theorem dX11_couldBe_51 : decode cX11_couldBe 51 = .ok (.getfield 40, 3) := by decide +kernel
theorem dX11_couldBe_54 : decode cX11_couldBe 54 = .ok (.iload 4, 2) := by decide +kernel
theorem dX11_couldBe_56 : decode cX11_couldBe 56 = .ok (.iaload, 1) := by decide +kernel
theorem dX11_couldBe_57 : decode cX11_couldBe 57 = .ok (.iconst 1, 1) := by decide +kernel
theorem dX11_couldBe_58 : decode cX11_couldBe 58 = .ok (.if_icmp .ne 7, 3) := by decide +kernel
theorem dX11_couldBe_61 : decode cX11_couldBe 61 = .ok (.iconst 0, 1) := by decide +kernel
theorem dX11_couldBe_62 : decode cX11_couldBe 62 = .ok (.goto 5, 3) := by decide +kernel
theorem dX11_couldBe_65 : decode cX11_couldBe 65 = .ok (.bipush 10, 2) := by decide +kernel
theorem dX11_couldBe_67 : decode cX11_couldBe 67 = .ok (.if_icmp .eq 7, 3) := by decide +kernel
theorem dX11_couldBe_70 : decode cX11_couldBe 70 = .ok (.iconst 1, 1) := by decide +kernel
theorem dX11_couldBe_71 : decode cX11_couldBe 71 = .ok (.goto 4, 3) := by decide +kernel
theorem dX11_couldBe_74 : decode cX11_couldBe 74 = .ok (.iconst 0, 1) := by decide +kernel
theorem dX11_couldBe_75 : decode cX11_couldBe 75 = .ok (.istore_n 3, 1) := by decide +kernel
theorem dX11_couldBe_76 : decode cX11_couldBe 76 = .ok (.iinc 4 1, 3) := by decide +kernel
theorem dX11_couldBe_79 : decode cX11_couldBe 79 = .ok (.goto (-74), 3) := by decide +kernel
theorem dX11_couldBe_82 : decode cX11_couldBe 82 = .ok (.iload_n 3, 1) := by decide +kernel
theorem dX11_couldBe_83 : decode cX11_couldBe 83 = .ok (.ireturn, 1) := by decide +kernel
theorem dX11_fondnessNow_0 : decode cX11_fondnessNow 0 = .ok (.iconst 0, 1) := by decide +kernel
theorem dX11_fondnessNow_1 : decode cX11_fondnessNow 1 = .ok (.istore_n 2, 1) := by decide +kernel
theorem dX11_fondnessNow_2 : decode cX11_fondnessNow 2 = .ok (.iconst 0, 1) := by decide +kernel
theorem dX11_fondnessNow_3 : decode cX11_fondnessNow 3 = .ok (.istore_n 3, 1) := by decide +kernel
theorem dX11_fondnessNow_4 : decode cX11_fondnessNow 4 = .ok (.iload_n 3, 1) := by decide +kernel
theorem dX11_fondnessNow_5 : decode cX11_fondnessNow 5 = .ok (.bipush 9, 2) := by decide +kernel
theorem dX11_fondnessNow_7 : decode cX11_fondnessNow 7 = .ok (.if_icmp .gt 28, 3) := by decide +kernel
theorem dX11_fondnessNow_10 : decode cX11_fondnessNow 10 = .ok (.iload_n 2, 1) := by decide +kernel
theorem dX11_fondnessNow_11 : decode cX11_fondnessNow 11 = .ok (.aload_n 0, 1) := by decide +kernel
theorem dX11_fondnessNow_12 : decode cX11_fondnessNow 12 = .ok (.iload_n 1, 1) := by decide +kernel
theorem dX11_fondnessNow_13 : decode cX11_fondnessNow 13 = .ok (.iload_n 3, 1) := by decide +kernel
theorem dX11_fondnessNow_14 : decode cX11_fondnessNow 14 = .ok (.invokevirtual 228, 3) := by decide +kernel
theorem dX11_fondnessNow_17 : decode cX11_fondnessNow 17 = .ok (.ifCond .eq 9, 3) := by decide +kernel
theorem dX11_fondnessNow_20 : decode cX11_fondnessNow 20 = .ok (.iconst 1, 1) := by decide +kernel
theorem dX11_fondnessNow_21 : decode cX11_fondnessNow 21 = .ok (.iload_n 3, 1) := by decide +kernel
theorem dX11_fondnessNow_22 : decode cX11_fondnessNow 22 = .ok (.ishl, 1) := by decide +kernel
theorem dX11_fondnessNow_23 : decode cX11_fondnessNow 23 = .ok (.goto 4, 3) := by decide +kernel
theorem dX11_fondnessNow_26 : decode cX11_fondnessNow 26 = .ok (.iconst 0, 1) := by decide +kernel
theorem dX11_fondnessNow_27 : decode cX11_fondnessNow 27 = .ok (.ior, 1) := by decide +kernel
theorem dX11_fondnessNow_28 : decode cX11_fondnessNow 28 = .ok (.istore_n 2, 1) := by decide +kernel
theorem dX11_fondnessNow_29 : decode cX11_fondnessNow 29 = .ok (.iinc 3 1, 3) := by decide +kernel
theorem dX11_fondnessNow_32 : decode cX11_fondnessNow 32 = .ok (.goto (-28), 3) := by decide +kernel
theorem dX11_fondnessNow_35 : decode cX11_fondnessNow 35 = .ok (.iload_n 2, 1) := by decide +kernel
theorem dX11_fondnessNow_36 : decode cX11_fondnessNow 36 = .ok (.ireturn, 1) := by decide +kernel
theorem dX11_fondness_0 : decode cX11_fondness 0 = .ok (.aload_n 0, 1) := by decide +kernel
theorem dX11_fondness_1 : decode cX11_fondness 1 = .ok (.iload_n 1, 1) := by decide +kernel
theorem dX11_fondness_2 : decode cX11_fondness 2 = .ok (.invokevirtual 149, 3) := by decide +kernel
theorem dX11_fondness_5 : decode cX11_fondness 5 = .ok (.ifCond .eq 11, 3) := by decide +kernel
theorem dX11_fondness_8 : decode cX11_fondness 8 = .ok (.aload_n 0, 1) := by decide +kernel
theorem dX11_fondness_9 : decode cX11_fondness 9 = .ok (.iload_n 1, 1) := by decide +kernel
theorem dX11_fondness_10 : decode cX11_fondness 10 = .ok (.invokevirtual 231, 3) := by decide +kernel
theorem dX11_fondness_13 : decode cX11_fondness 13 = .ok (.goto 5, 3) := by decide +kernel
theorem dX11_fondness_16 : decode cX11_fondness 16 = .ok (.bipush (-101), 2) := by decide +kernel
theorem dX11_fondness_18 : decode cX11_fondness 18 = .ok (.ireturn, 1) := by decide +kernel
theorem dX11_saveAll_0 : decode cX11_saveAll 0 = .ok (.iconst 0, 1) := by decide +kernel
theorem dX11_saveAll_1 : decode cX11_saveAll 1 = .ok (.istore_n 1, 1) := by decide +kernel
theorem dX11_saveAll_2 : decode cX11_saveAll 2 = .ok (.iload_n 1, 1) := by decide +kernel
theorem dX11_saveAll_3 : decode cX11_saveAll 3 = .ok (.bipush 9, 2) := by decide +kernel
theorem dX11_saveAll_5 : decode cX11_saveAll 5 = .ok (.if_icmp .ge 21, 3) := by decide +kernel
theorem dX11_saveAll_8 : decode cX11_saveAll 8 = .ok (.aload_n 0, 1) := by decide +kernel
theorem dX11_saveAll_9 : decode cX11_saveAll 9 = .ok (.getfield 53, 3) := by decide +kernel
theorem dX11_saveAll_12 : decode cX11_saveAll 12 = .ok (.iload_n 1, 1) := by decide +kernel
theorem dX11_saveAll_13 : decode cX11_saveAll 13 = .ok (.aload_n 0, 1) := by decide +kernel
theorem dX11_saveAll_14 : decode cX11_saveAll 14 = .ok (.getfield 31, 3) := by decide +kernel
theorem dX11_saveAll_17 : decode cX11_saveAll 17 = .ok (.iload_n 1, 1) := by decide +kernel
theorem dX11_saveAll_18 : decode cX11_saveAll 18 = .ok (.iaload, 1) := by decide +kernel
theorem dX11_saveAll_19 : decode cX11_saveAll 19 = .ok (.iastore, 1) := by decide +kernel
theorem dX11_saveAll_20 : decode cX11_saveAll 20 = .ok (.iinc 1 1, 3) := by decide +kernel
theorem dX11_saveAll_23 : decode cX11_saveAll 23 = .ok (.goto (-21), 3) := by decide +kernel
theorem dX11_saveAll_26 : decode cX11_saveAll 26 = .ok (.iconst 0, 1) := by decide +kernel
theorem dX11_saveAll_27 : decode cX11_saveAll 27 = .ok (.istore_n 1, 1) := by decide +kernel
theorem dX11_saveAll_28 : decode cX11_saveAll 28 = .ok (.iload_n 1, 1) := by decide +kernel
theorem dX11_saveAll_29 : decode cX11_saveAll 29 = .ok (.iconst 3, 1) := by decide +kernel
theorem dX11_saveAll_30 : decode cX11_saveAll 30 = .ok (.if_icmp .ge 39, 3) := by decide +kernel
theorem dX11_saveAll_33 : decode cX11_saveAll 33 = .ok (.aload_n 0, 1) := by decide +kernel
theorem dX11_saveAll_34 : decode cX11_saveAll 34 = .ok (.getfield 53, 3) := by decide +kernel
theorem dX11_saveAll_37 : decode cX11_saveAll 37 = .ok (.bipush 9, 2) := by decide +kernel
theorem dX11_saveAll_39 : decode cX11_saveAll 39 = .ok (.iload_n 1, 1) := by decide +kernel
theorem dX11_saveAll_40 : decode cX11_saveAll 40 = .ok (.iadd, 1) := by decide +kernel
theorem dX11_saveAll_41 : decode cX11_saveAll 41 = .ok (.aload_n 0, 1) := by decide +kernel
theorem dX11_saveAll_42 : decode cX11_saveAll 42 = .ok (.getfield 16, 3) := by decide +kernel
theorem dX11_saveAll_45 : decode cX11_saveAll 45 = .ok (.iload_n 1, 1) := by decide +kernel
theorem dX11_saveAll_46 : decode cX11_saveAll 46 = .ok (.iaload, 1) := by decide +kernel
theorem dX11_saveAll_47 : decode cX11_saveAll 47 = .ok (.iastore, 1) := by decide +kernel
theorem dX11_saveAll_48 : decode cX11_saveAll 48 = .ok (.aload_n 0, 1) := by decide +kernel
theorem dX11_saveAll_49 : decode cX11_saveAll 49 = .ok (.getfield 53, 3) := by decide +kernel
theorem dX11_saveAll_52 : decode cX11_saveAll 52 = .ok (.bipush 12, 2) := by decide +kernel
theorem dX11_saveAll_54 : decode cX11_saveAll 54 = .ok (.iload_n 1, 1) := by decide +kernel
theorem dX11_saveAll_55 : decode cX11_saveAll 55 = .ok (.iadd, 1) := by decide +kernel
theorem dX11_saveAll_56 : decode cX11_saveAll 56 = .ok (.aload_n 0, 1) := by decide +kernel
theorem dX11_saveAll_57 : decode cX11_saveAll 57 = .ok (.getfield 28, 3) := by decide +kernel
theorem dX11_saveAll_60 : decode cX11_saveAll 60 = .ok (.iload_n 1, 1) := by decide +kernel
theorem dX11_saveAll_61 : decode cX11_saveAll 61 = .ok (.iaload, 1) := by decide +kernel
theorem dX11_saveAll_62 : decode cX11_saveAll 62 = .ok (.iastore, 1) := by decide +kernel
theorem dX11_saveAll_63 : decode cX11_saveAll 63 = .ok (.iinc 1 1, 3) := by decide +kernel
theorem dX11_saveAll_66 : decode cX11_saveAll 66 = .ok (.goto (-38), 3) := by decide +kernel
theorem dX11_saveAll_69 : decode cX11_saveAll 69 = .ok (.return_, 1) := by decide +kernel
theorem dX11_loadAll_0 : decode cX11_loadAll 0 = .ok (.iconst 0, 1) := by decide +kernel
theorem dX11_loadAll_1 : decode cX11_loadAll 1 = .ok (.istore_n 1, 1) := by decide +kernel
theorem dX11_loadAll_2 : decode cX11_loadAll 2 = .ok (.iload_n 1, 1) := by decide +kernel
theorem dX11_loadAll_3 : decode cX11_loadAll 3 = .ok (.bipush 9, 2) := by decide +kernel
theorem dX11_loadAll_5 : decode cX11_loadAll 5 = .ok (.if_icmp .ge 21, 3) := by decide +kernel
theorem dX11_loadAll_8 : decode cX11_loadAll 8 = .ok (.aload_n 0, 1) := by decide +kernel
theorem dX11_loadAll_9 : decode cX11_loadAll 9 = .ok (.getfield 31, 3) := by decide +kernel
theorem dX11_loadAll_12 : decode cX11_loadAll 12 = .ok (.iload_n 1, 1) := by decide +kernel
theorem dX11_loadAll_13 : decode cX11_loadAll 13 = .ok (.aload_n 0, 1) := by decide +kernel
theorem dX11_loadAll_14 : decode cX11_loadAll 14 = .ok (.getfield 53, 3) := by decide +kernel
theorem dX11_loadAll_17 : decode cX11_loadAll 17 = .ok (.iload_n 1, 1) := by decide +kernel
theorem dX11_loadAll_18 : decode cX11_loadAll 18 = .ok (.iaload, 1) := by decide +kernel
theorem dX11_loadAll_19 : decode cX11_loadAll 19 = .ok (.iastore, 1) := by decide +kernel
theorem dX11_loadAll_20 : decode cX11_loadAll 20 = .ok (.iinc 1 1, 3) := by decide +kernel
theorem dX11_loadAll_23 : decode cX11_loadAll 23 = .ok (.goto (-21), 3) := by decide +kernel
theorem dX11_loadAll_26 : decode cX11_loadAll 26 = .ok (.iconst 0, 1) := by decide +kernel
theorem dX11_loadAll_27 : decode cX11_loadAll 27 = .ok (.istore_n 1, 1) := by decide +kernel
theorem dX11_loadAll_28 : decode cX11_loadAll 28 = .ok (.iload_n 1, 1) := by decide +kernel
theorem dX11_loadAll_29 : decode cX11_loadAll 29 = .ok (.iconst 3, 1) := by decide +kernel
theorem dX11_loadAll_30 : decode cX11_loadAll 30 = .ok (.if_icmp .ge 39, 3) := by decide +kernel
theorem dX11_loadAll_33 : decode cX11_loadAll 33 = .ok (.aload_n 0, 1) := by decide +kernel
theorem dX11_loadAll_34 : decode cX11_loadAll 34 = .ok (.getfield 16, 3) := by decide +kernel
theorem dX11_loadAll_37 : decode cX11_loadAll 37 = .ok (.iload_n 1, 1) := by decide +kernel
theorem dX11_loadAll_38 : decode cX11_loadAll 38 = .ok (.aload_n 0, 1) := by decide +kernel
theorem dX11_loadAll_39 : decode cX11_loadAll 39 = .ok (.getfield 53, 3) := by decide +kernel
theorem dX11_loadAll_42 : decode cX11_loadAll 42 = .ok (.bipush 9, 2) := by decide +kernel
theorem dX11_loadAll_44 : decode cX11_loadAll 44 = .ok (.iload_n 1, 1) := by decide +kernel
theorem dX11_loadAll_45 : decode cX11_loadAll 45 = .ok (.iadd, 1) := by decide +kernel
theorem dX11_loadAll_46 : decode cX11_loadAll 46 = .ok (.iaload, 1) := by decide +kernel
theorem dX11_loadAll_47 : decode cX11_loadAll 47 = .ok (.iastore, 1) := by decide +kernel
theorem dX11_loadAll_48 : decode cX11_loadAll 48 = .ok (.aload_n 0, 1) := by decide +kernel
theorem dX11_loadAll_49 : decode cX11_loadAll 49 = .ok (.getfield 28, 3) := by decide +kernel
theorem dX11_loadAll_52 : decode cX11_loadAll 52 = .ok (.iload_n 1, 1) := by decide +kernel
theorem dX11_loadAll_53 : decode cX11_loadAll 53 = .ok (.aload_n 0, 1) := by decide +kernel
theorem dX11_loadAll_54 : decode cX11_loadAll 54 = .ok (.getfield 53, 3) := by decide +kernel
theorem dX11_loadAll_57 : decode cX11_loadAll 57 = .ok (.bipush 12, 2) := by decide +kernel
theorem dX11_loadAll_59 : decode cX11_loadAll 59 = .ok (.iload_n 1, 1) := by decide +kernel
theorem dX11_loadAll_60 : decode cX11_loadAll 60 = .ok (.iadd, 1) := by decide +kernel
theorem dX11_loadAll_61 : decode cX11_loadAll 61 = .ok (.iaload, 1) := by decide +kernel
theorem dX11_loadAll_62 : decode cX11_loadAll 62 = .ok (.iastore, 1) := by decide +kernel
theorem dX11_loadAll_63 : decode cX11_loadAll 63 = .ok (.iinc 1 1, 3) := by decide +kernel
theorem dX11_loadAll_66 : decode cX11_loadAll 66 = .ok (.goto (-38), 3) := by decide +kernel
theorem dX11_loadAll_69 : decode cX11_loadAll 69 = .ok (.return_, 1) := by decide +kernel
theorem dX11_draw_0 : decode cX11_draw 0 = .ok (.aload_n 0, 1) := by decide +kernel
theorem dX11_draw_1 : decode cX11_draw 1 = .ok (.ldc2_w 234, 3) := by decide +kernel
theorem dX11_draw_4 : decode cX11_draw 4 = .ok (.aload_n 0, 1) := by decide +kernel
theorem dX11_draw_5 : decode cX11_draw 5 = .ok (.getfield 236, 3) := by decide +kernel
theorem dX11_draw_8 : decode cX11_draw 8 = .ok (.lmul, 1) := by decide +kernel
theorem dX11_draw_9 : decode cX11_draw 9 = .ok (.ldc2_w 240, 3) := by decide +kernel
theorem dX11_draw_12 : decode cX11_draw 12 = .ok (.ladd, 1) := by decide +kernel
theorem dX11_draw_13 : decode cX11_draw 13 = .ok (.ldc2_w 242, 3) := by decide +kernel
theorem dX11_draw_16 : decode cX11_draw 16 = .ok (.land, 1) := by decide +kernel
theorem dX11_draw_17 : decode cX11_draw 17 = .ok (.putfield 236, 3) := by decide +kernel
theorem dX11_draw_20 : decode cX11_draw 20 = .ok (.aload_n 0, 1) := by decide +kernel
theorem dX11_draw_21 : decode cX11_draw 21 = .ok (.getfield 236, 3) := by decide +kernel
theorem dX11_draw_24 : decode cX11_draw 24 = .ok (.ldc2_w 244, 3) := by decide +kernel
theorem dX11_draw_27 : decode cX11_draw 27 = .ok (.ldiv, 1) := by decide +kernel
theorem dX11_draw_28 : decode cX11_draw 28 = .ok (.iload_n 1, 1) := by decide +kernel
theorem dX11_draw_29 : decode cX11_draw 29 = .ok (.i2l, 1) := by decide +kernel
theorem dX11_draw_30 : decode cX11_draw 30 = .ok (.lrem, 1) := by decide +kernel
theorem dX11_draw_31 : decode cX11_draw 31 = .ok (.l2i, 1) := by decide +kernel
theorem dX11_draw_32 : decode cX11_draw 32 = .ok (.ireturn, 1) := by decide +kernel
theorem dX11_goOne_0 : decode cX11_goOne 0 = .ok (.aload_n 0, 1) := by decide +kernel
theorem dX11_goOne_1 : decode cX11_goOne 1 = .ok (.bipush 10, 2) := by decide +kernel
theorem dX11_goOne_3 : decode cX11_goOne 3 = .ok (.invokevirtual 246, 3) := by decide +kernel
theorem dX11_goOne_6 : decode cX11_goOne 6 = .ok (.aload_n 0, 1) := by decide +kernel
theorem dX11_goOne_7 : decode cX11_goOne 7 = .ok (.iload_n 1, 1) := by decide +kernel
theorem dX11_goOne_8 : decode cX11_goOne 8 = .ok (.iload_n 2, 1) := by decide +kernel
theorem dX11_goOne_9 : decode cX11_goOne 9 = .ok (.invokevirtual 155, 3) := by decide +kernel
theorem dX11_goOne_12 : decode cX11_goOne 12 = .ok (.if_icmp .ge 17, 3) := by decide +kernel
theorem dX11_goOne_15 : decode cX11_goOne 15 = .ok (.aload_n 0, 1) := by decide +kernel
theorem dX11_goOne_16 : decode cX11_goOne 16 = .ok (.getfield 28, 3) := by decide +kernel
theorem dX11_goOne_19 : decode cX11_goOne 19 = .ok (.iload_n 1, 1) := by decide +kernel
theorem dX11_goOne_20 : decode cX11_goOne 20 = .ok (.dup2, 1) := by decide +kernel
theorem dX11_goOne_21 : decode cX11_goOne 21 = .ok (.iaload, 1) := by decide +kernel
theorem dX11_goOne_22 : decode cX11_goOne 22 = .ok (.iconst 1, 1) := by decide +kernel
theorem dX11_goOne_23 : decode cX11_goOne 23 = .ok (.iload_n 2, 1) := by decide +kernel
theorem dX11_goOne_24 : decode cX11_goOne 24 = .ok (.ishl, 1) := by decide +kernel
theorem dX11_goOne_25 : decode cX11_goOne 25 = .ok (.ior, 1) := by decide +kernel
theorem dX11_goOne_26 : decode cX11_goOne 26 = .ok (.iastore, 1) := by decide +kernel
theorem dX11_goOne_27 : decode cX11_goOne 27 = .ok (.iconst 0, 1) := by decide +kernel
theorem dX11_goOne_28 : decode cX11_goOne 28 = .ok (.ireturn, 1) := by decide +kernel
theorem dX11_goOne_29 : decode cX11_goOne 29 = .ok (.aload_n 0, 1) := by decide +kernel
theorem dX11_goOne_30 : decode cX11_goOne 30 = .ok (.iload_n 1, 1) := by decide +kernel
theorem dX11_goOne_31 : decode cX11_goOne 31 = .ok (.iload_n 2, 1) := by decide +kernel
theorem dX11_goOne_32 : decode cX11_goOne 32 = .ok (.invokevirtual 158, 3) := by decide +kernel
theorem dX11_goOne_35 : decode cX11_goOne 35 = .ok (.aload_n 0, 1) := by decide +kernel
theorem dX11_goOne_36 : decode cX11_goOne 36 = .ok (.getfield 13, 3) := by decide +kernel
theorem dX11_goOne_39 : decode cX11_goOne 39 = .ok (.iload_n 2, 1) := by decide +kernel
theorem dX11_goOne_40 : decode cX11_goOne 40 = .ok (.iaload, 1) := by decide +kernel
theorem dX11_goOne_41 : decode cX11_goOne 41 = .ok (.ireturn, 1) := by decide +kernel
theorem dX11_learntAll_0 : decode cX11_learntAll 0 = .ok (.iconst 0, 1) := by decide +kernel
theorem dX11_learntAll_1 : decode cX11_learntAll 1 = .ok (.istore_n 1, 1) := by decide +kernel
theorem dX11_learntAll_2 : decode cX11_learntAll 2 = .ok (.iconst 0, 1) := by decide +kernel
theorem dX11_learntAll_3 : decode cX11_learntAll 3 = .ok (.istore_n 2, 1) := by decide +kernel
theorem dX11_learntAll_4 : decode cX11_learntAll 4 = .ok (.iload_n 2, 1) := by decide +kernel
theorem dX11_learntAll_5 : decode cX11_learntAll 5 = .ok (.aload_n 0, 1) := by decide +kernel
theorem dX11_learntAll_6 : decode cX11_learntAll 6 = .ok (.getfield 116, 3) := by decide +kernel
theorem dX11_learntAll_9 : decode cX11_learntAll 9 = .ok (.if_icmp .ge 21, 3) := by decide +kernel
theorem dX11_learntAll_12 : decode cX11_learntAll 12 = .ok (.iload_n 1, 1) := by decide +kernel
theorem dX11_learntAll_13 : decode cX11_learntAll 13 = .ok (.aload_n 0, 1) := by decide +kernel
theorem dX11_learntAll_14 : decode cX11_learntAll 14 = .ok (.getfield 28, 3) := by decide +kernel
theorem dX11_learntAll_17 : decode cX11_learntAll 17 = .ok (.iload_n 2, 1) := by decide +kernel
theorem dX11_learntAll_18 : decode cX11_learntAll 18 = .ok (.iaload, 1) := by decide +kernel
theorem dX11_learntAll_19 : decode cX11_learntAll 19 = .ok (.invokestatic 249, 3) := by decide +kernel
theorem dX11_learntAll_22 : decode cX11_learntAll 22 = .ok (.iadd, 1) := by decide +kernel
theorem dX11_learntAll_23 : decode cX11_learntAll 23 = .ok (.istore_n 1, 1) := by decide +kernel
theorem dX11_learntAll_24 : decode cX11_learntAll 24 = .ok (.iinc 2 1, 3) := by decide +kernel
theorem dX11_learntAll_27 : decode cX11_learntAll 27 = .ok (.goto (-23), 3) := by decide +kernel
theorem dX11_learntAll_30 : decode cX11_learntAll 30 = .ok (.iload_n 1, 1) := by decide +kernel
theorem dX11_learntAll_31 : decode cX11_learntAll 31 = .ok (.ireturn, 1) := by decide +kernel
theorem dX11_schoolsNow_0 : decode cX11_schoolsNow 0 = .ok (.aload_n 0, 1) := by decide +kernel
theorem dX11_schoolsNow_1 : decode cX11_schoolsNow 1 = .ok (.invokevirtual 252, 3) := by decide +kernel
theorem dX11_schoolsNow_4 : decode cX11_schoolsNow 4 = .ok (.aload_n 0, 1) := by decide +kernel
theorem dX11_schoolsNow_5 : decode cX11_schoolsNow 5 = .ok (.iload_n 2, 1) := by decide +kernel
theorem dX11_schoolsNow_6 : decode cX11_schoolsNow 6 = .ok (.i2l, 1) := by decide +kernel
theorem dX11_schoolsNow_7 : decode cX11_schoolsNow 7 = .ok (.putfield 236, 3) := by decide +kernel
theorem dX11_schoolsNow_10 : decode cX11_schoolsNow 10 = .ok (.iconst 0, 1) := by decide +kernel
theorem dX11_schoolsNow_11 : decode cX11_schoolsNow 11 = .ok (.istore 4, 2) := by decide +kernel
theorem dX11_schoolsNow_13 : decode cX11_schoolsNow 13 = .ok (.iconst 0, 1) := by decide +kernel
theorem dX11_schoolsNow_14 : decode cX11_schoolsNow 14 = .ok (.istore 5, 2) := by decide +kernel
theorem dX11_schoolsNow_16 : decode cX11_schoolsNow 16 = .ok (.iload 5, 2) := by decide +kernel
theorem dX11_schoolsNow_18 : decode cX11_schoolsNow 18 = .ok (.iload_n 1, 1) := by decide +kernel
theorem dX11_schoolsNow_19 : decode cX11_schoolsNow 19 = .ok (.aload_n 0, 1) := by decide +kernel
theorem dX11_schoolsNow_20 : decode cX11_schoolsNow 20 = .ok (.getfield 116, 3) := by decide +kernel
theorem dX11_schoolsNow_23 : decode cX11_schoolsNow 23 = .ok (.imul, 1) := by decide +kernel
theorem dX11_schoolsNow_24 : decode cX11_schoolsNow 24 = .ok (.if_icmp .ge 68, 3) := by decide +kernel
theorem dX11_schoolsNow_27 : decode cX11_schoolsNow 27 = .ok (.iload 5, 2) := by decide +kernel
theorem dX11_schoolsNow_29 : decode cX11_schoolsNow 29 = .ok (.aload_n 0, 1) := by decide +kernel
theorem dX11_schoolsNow_30 : decode cX11_schoolsNow 30 = .ok (.getfield 116, 3) := by decide +kernel
theorem dX11_schoolsNow_33 : decode cX11_schoolsNow 33 = .ok (.irem, 1) := by decide +kernel
theorem dX11_schoolsNow_34 : decode cX11_schoolsNow 34 = .ok (.istore 6, 2) := by decide +kernel
theorem dX11_schoolsNow_36 : decode cX11_schoolsNow 36 = .ok (.iconst 0, 1) := by decide +kernel
theorem dX11_schoolsNow_37 : decode cX11_schoolsNow 37 = .ok (.istore 7, 2) := by decide +kernel
theorem dX11_schoolsNow_39 : decode cX11_schoolsNow 39 = .ok (.iload 7, 2) := by decide +kernel
theorem dX11_schoolsNow_41 : decode cX11_schoolsNow 41 = .ok (.aload_n 0, 1) := by decide +kernel
theorem dX11_schoolsNow_42 : decode cX11_schoolsNow 42 = .ok (.getfield 107, 3) := by decide +kernel
theorem dX11_schoolsNow_45 : decode cX11_schoolsNow 45 = .ok (.if_icmp .ge 41, 3) := by decide +kernel
theorem dX11_schoolsNow_48 : decode cX11_schoolsNow 48 = .ok (.iload 4, 2) := by decide +kernel
theorem dX11_schoolsNow_50 : decode cX11_schoolsNow 50 = .ok (.aload_n 0, 1) := by decide +kernel
theorem dX11_schoolsNow_51 : decode cX11_schoolsNow 51 = .ok (.getfield 28, 3) := by decide +kernel
theorem dX11_schoolsNow_54 : decode cX11_schoolsNow 54 = .ok (.iload 6, 2) := by decide +kernel
theorem dX11_schoolsNow_56 : decode cX11_schoolsNow 56 = .ok (.iaload, 1) := by decide +kernel
theorem dX11_schoolsNow_57 : decode cX11_schoolsNow 57 = .ok (.iload 7, 2) := by decide +kernel
theorem dX11_schoolsNow_59 : decode cX11_schoolsNow 59 = .ok (.invokestatic 122, 3) := by decide +kernel
theorem dX11_schoolsNow_62 : decode cX11_schoolsNow 62 = .ok (.ifCond .eq 7, 3) := by decide +kernel
theorem dX11_schoolsNow_65 : decode cX11_schoolsNow 65 = .ok (.iconst 0, 1) := by decide +kernel
theorem dX11_schoolsNow_66 : decode cX11_schoolsNow 66 = .ok (.goto 11, 3) := by decide +kernel
theorem dX11_schoolsNow_69 : decode cX11_schoolsNow 69 = .ok (.aload_n 0, 1) := by decide +kernel
theorem dX11_schoolsNow_70 : decode cX11_schoolsNow 70 = .ok (.iload 6, 2) := by decide +kernel
theorem dX11_schoolsNow_72 : decode cX11_schoolsNow 72 = .ok (.iload 7, 2) := by decide +kernel
theorem dX11_schoolsNow_74 : decode cX11_schoolsNow 74 = .ok (.invokevirtual 255, 3) := by decide +kernel
theorem dX11_schoolsNow_77 : decode cX11_schoolsNow 77 = .ok (.iadd, 1) := by decide +kernel
theorem dX11_schoolsNow_78 : decode cX11_schoolsNow 78 = .ok (.istore 4, 2) := by decide +kernel
theorem dX11_schoolsNow_80 : decode cX11_schoolsNow 80 = .ok (.iinc 7 1, 3) := by decide +kernel
theorem dX11_schoolsNow_83 : decode cX11_schoolsNow 83 = .ok (.goto (-44), 3) := by decide +kernel
theorem dX11_schoolsNow_86 : decode cX11_schoolsNow 86 = .ok (.iinc 5 1, 3) := by decide +kernel
theorem dX11_schoolsNow_89 : decode cX11_schoolsNow 89 = .ok (.goto (-73), 3) := by decide +kernel
theorem dX11_schoolsNow_92 : decode cX11_schoolsNow 92 = .ok (.aload_n 0, 1) := by decide +kernel
theorem dX11_schoolsNow_93 : decode cX11_schoolsNow 93 = .ok (.invokevirtual 258, 3) := by decide +kernel
theorem dX11_schoolsNow_96 : decode cX11_schoolsNow 96 = .ok (.istore 5, 2) := by decide +kernel
theorem dX11_schoolsNow_98 : decode cX11_schoolsNow 98 = .ok (.aload_n 0, 1) := by decide +kernel
theorem dX11_schoolsNow_99 : decode cX11_schoolsNow 99 = .ok (.invokevirtual 261, 3) := by decide +kernel
theorem dX11_schoolsNow_102 : decode cX11_schoolsNow 102 = .ok (.iload_n 3, 1) := by decide +kernel
theorem dX11_schoolsNow_103 : decode cX11_schoolsNow 103 = .ok (.ifCond .ne 8, 3) := by decide +kernel
theorem dX11_schoolsNow_106 : decode cX11_schoolsNow 106 = .ok (.iload 4, 2) := by decide +kernel
theorem dX11_schoolsNow_108 : decode cX11_schoolsNow 108 = .ok (.goto 18, 3) := by decide +kernel
theorem dX11_schoolsNow_111 : decode cX11_schoolsNow 111 = .ok (.iload_n 3, 1) := by decide +kernel
theorem dX11_schoolsNow_112 : decode cX11_schoolsNow 112 = .ok (.iconst 1, 1) := by decide +kernel
theorem dX11_schoolsNow_113 : decode cX11_schoolsNow 113 = .ok (.if_icmp .ne 8, 3) := by decide +kernel
theorem dX11_schoolsNow_116 : decode cX11_schoolsNow 116 = .ok (.iload 5, 2) := by decide +kernel
theorem dX11_schoolsNow_118 : decode cX11_schoolsNow 118 = .ok (.goto 8, 3) := by decide +kernel
theorem dX11_schoolsNow_121 : decode cX11_schoolsNow 121 = .ok (.aload_n 0, 1) := by decide +kernel
theorem dX11_schoolsNow_122 : decode cX11_schoolsNow 122 = .ok (.getfield 236, 3) := by decide +kernel
theorem dX11_schoolsNow_125 : decode cX11_schoolsNow 125 = .ok (.l2i, 1) := by decide +kernel
theorem dX11_schoolsNow_126 : decode cX11_schoolsNow 126 = .ok (.ireturn, 1) := by decide +kernel
theorem dX11_schools_0 : decode cX11_schools 0 = .ok (.iload_n 1, 1) := by decide +kernel
theorem dX11_schools_1 : decode cX11_schools 1 = .ok (.iconst 1, 1) := by decide +kernel
theorem dX11_schools_2 : decode cX11_schools 2 = .ok (.bipush 20, 2) := by decide +kernel
theorem dX11_schools_4 : decode cX11_schools 4 = .ok (.invokestatic 77, 3) := by decide +kernel
theorem dX11_schools_7 : decode cX11_schools 7 = .ok (.ifCond .eq 16, 3) := by decide +kernel
theorem dX11_schools_10 : decode cX11_schools 10 = .ok (.iload_n 2, 1) := by decide +kernel
theorem dX11_schools_11 : decode cX11_schools 11 = .ok (.ifCond .lt 12, 3) := by decide +kernel
theorem dX11_schools_14 : decode cX11_schools 14 = .ok (.iload_n 3, 1) := by decide +kernel
theorem dX11_schools_15 : decode cX11_schools 15 = .ok (.iconst 0, 1) := by decide +kernel
theorem dX11_schools_16 : decode cX11_schools 16 = .ok (.iconst 2, 1) := by decide +kernel
theorem dX11_schools_17 : decode cX11_schools 17 = .ok (.invokestatic 77, 3) := by decide +kernel
theorem dX11_schools_20 : decode cX11_schools 20 = .ok (.ifCond .ne 6, 3) := by decide +kernel
theorem dX11_schools_23 : decode cX11_schools 23 = .ok (.bipush (-102), 2) := by decide +kernel
theorem dX11_schools_25 : decode cX11_schools 25 = .ok (.ireturn, 1) := by decide +kernel
theorem dX11_schools_26 : decode cX11_schools 26 = .ok (.aload_n 0, 1) := by decide +kernel
theorem dX11_schools_27 : decode cX11_schools 27 = .ok (.getfield 116, 3) := by decide +kernel
theorem dX11_schools_30 : decode cX11_schools 30 = .ok (.ifCond .ne 8, 3) := by decide +kernel
theorem dX11_schools_33 : decode cX11_schools 33 = .ok (.bipush (-103), 2) := by decide +kernel
theorem dX11_schools_35 : decode cX11_schools 35 = .ok (.goto 10, 3) := by decide +kernel
theorem dX11_schools_38 : decode cX11_schools 38 = .ok (.aload_n 0, 1) := by decide +kernel
theorem dX11_schools_39 : decode cX11_schools 39 = .ok (.iload_n 1, 1) := by decide +kernel
theorem dX11_schools_40 : decode cX11_schools 40 = .ok (.iload_n 2, 1) := by decide +kernel
theorem dX11_schools_41 : decode cX11_schools 41 = .ok (.iload_n 3, 1) := by decide +kernel
theorem dX11_schools_42 : decode cX11_schools 42 = .ok (.invokevirtual 264, 3) := by decide +kernel
theorem dX11_schools_45 : decode cX11_schools 45 = .ok (.ireturn, 1) := by decide +kernel
theorem dX11_stripesAll_0 : decode cX11_stripesAll 0 = .ok (.aload_n 0, 1) := by decide +kernel
theorem dX11_stripesAll_1 : decode cX11_stripesAll 1 = .ok (.getfield 16, 3) := by decide +kernel
theorem dX11_stripesAll_4 : decode cX11_stripesAll 4 = .ok (.iconst 0, 1) := by decide +kernel
theorem dX11_stripesAll_5 : decode cX11_stripesAll 5 = .ok (.iaload, 1) := by decide +kernel
theorem dX11_stripesAll_6 : decode cX11_stripesAll 6 = .ok (.aload_n 0, 1) := by decide +kernel
theorem dX11_stripesAll_7 : decode cX11_stripesAll 7 = .ok (.getfield 16, 3) := by decide +kernel
theorem dX11_stripesAll_10 : decode cX11_stripesAll 10 = .ok (.iconst 1, 1) := by decide +kernel
theorem dX11_stripesAll_11 : decode cX11_stripesAll 11 = .ok (.iaload, 1) := by decide +kernel
theorem dX11_stripesAll_12 : decode cX11_stripesAll 12 = .ok (.iadd, 1) := by decide +kernel
theorem dX11_stripesAll_13 : decode cX11_stripesAll 13 = .ok (.aload_n 0, 1) := by decide +kernel
theorem dX11_stripesAll_14 : decode cX11_stripesAll 14 = .ok (.getfield 16, 3) := by decide +kernel
theorem dX11_stripesAll_17 : decode cX11_stripesAll 17 = .ok (.iconst 2, 1) := by decide +kernel
theorem dX11_stripesAll_18 : decode cX11_stripesAll 18 = .ok (.iaload, 1) := by decide +kernel
theorem dX11_stripesAll_19 : decode cX11_stripesAll 19 = .ok (.iadd, 1) := by decide +kernel
theorem dX11_stripesAll_20 : decode cX11_stripesAll 20 = .ok (.ireturn, 1) := by decide +kernel
theorem dX11_image_0 : decode cX11_image 0 = .ok (.aload_n 0, 1) := by decide +kernel
theorem dX11_image_1 : decode cX11_image 1 = .ok (.getfield 107, 3) := by decide +kernel
theorem dX11_image_4 : decode cX11_image 4 = .ok (.ifCond .ne 6, 3) := by decide +kernel
theorem dX11_image_7 : decode cX11_image 7 = .ok (.bipush (-103), 2) := by decide +kernel
theorem dX11_image_9 : decode cX11_image 9 = .ok (.ireturn, 1) := by decide +kernel
theorem dX11_image_10 : decode cX11_image 10 = .ok (.aload_n 0, 1) := by decide +kernel
theorem dX11_image_11 : decode cX11_image 11 = .ok (.iconst 1, 1) := by decide +kernel
theorem dX11_image_12 : decode cX11_image 12 = .ok (.putfield 267, 3) := by decide +kernel
theorem dX11_image_15 : decode cX11_image 15 = .ok (.aload_n 0, 1) := by decide +kernel
theorem dX11_image_16 : decode cX11_image 16 = .ok (.aload_n 0, 1) := by decide +kernel
theorem dX11_image_17 : decode cX11_image 17 = .ok (.getfield 113, 3) := by decide +kernel
theorem dX11_image_20 : decode cX11_image 20 = .ok (.putfield 270, 3) := by decide +kernel
theorem dX11_image_23 : decode cX11_image 23 = .ok (.aload_n 0, 1) := by decide +kernel
theorem dX11_image_24 : decode cX11_image 24 = .ok (.aload_n 0, 1) := by decide +kernel
theorem dX11_image_25 : decode cX11_image 25 = .ok (.getfield 116, 3) := by decide +kernel
theorem dX11_image_28 : decode cX11_image 28 = .ok (.putfield 273, 3) := by decide +kernel
theorem dX11_image_31 : decode cX11_image 31 = .ok (.aload_n 0, 1) := by decide +kernel
theorem dX11_image_32 : decode cX11_image 32 = .ok (.aload_n 0, 1) := by decide +kernel
theorem dX11_image_33 : decode cX11_image 33 = .ok (.getfield 119, 3) := by decide +kernel
theorem dX11_image_36 : decode cX11_image 36 = .ok (.putfield 276, 3) := by decide +kernel
theorem dX11_image_39 : decode cX11_image 39 = .ok (.iconst 0, 1) := by decide +kernel
theorem dX11_image_40 : decode cX11_image 40 = .ok (.istore_n 1, 1) := by decide +kernel
theorem dX11_image_41 : decode cX11_image 41 = .ok (.iload_n 1, 1) := by decide +kernel
theorem dX11_image_42 : decode cX11_image 42 = .ok (.bipush 9, 2) := by decide +kernel
theorem dX11_image_44 : decode cX11_image 44 = .ok (.if_icmp .ge 21, 3) := by decide +kernel
theorem dX11_image_47 : decode cX11_image 47 = .ok (.aload_n 0, 1) := by decide +kernel
theorem dX11_image_48 : decode cX11_image 48 = .ok (.getfield 56, 3) := by decide +kernel
theorem dX11_image_51 : decode cX11_image 51 = .ok (.iload_n 1, 1) := by decide +kernel
theorem dX11_image_52 : decode cX11_image 52 = .ok (.aload_n 0, 1) := by decide +kernel
theorem dX11_image_53 : decode cX11_image 53 = .ok (.getfield 31, 3) := by decide +kernel
theorem dX11_image_56 : decode cX11_image 56 = .ok (.iload_n 1, 1) := by decide +kernel
theorem dX11_image_57 : decode cX11_image 57 = .ok (.iaload, 1) := by decide +kernel
theorem dX11_image_58 : decode cX11_image 58 = .ok (.iastore, 1) := by decide +kernel
theorem dX11_image_59 : decode cX11_image 59 = .ok (.iinc 1 1, 3) := by decide +kernel
theorem dX11_image_62 : decode cX11_image 62 = .ok (.goto (-21), 3) := by decide +kernel
theorem dX11_image_65 : decode cX11_image 65 = .ok (.iconst 0, 1) := by decide +kernel
theorem dX11_image_66 : decode cX11_image 66 = .ok (.istore_n 1, 1) := by decide +kernel
theorem dX11_image_67 : decode cX11_image 67 = .ok (.iload_n 1, 1) := by decide +kernel
theorem dX11_image_68 : decode cX11_image 68 = .ok (.iconst 3, 1) := by decide +kernel
theorem dX11_image_69 : decode cX11_image 69 = .ok (.if_icmp .ge 45, 3) := by decide +kernel
theorem dX11_image_72 : decode cX11_image 72 = .ok (.aload_n 0, 1) := by decide +kernel
theorem dX11_image_73 : decode cX11_image 73 = .ok (.getfield 59, 3) := by decide +kernel
theorem dX11_image_76 : decode cX11_image 76 = .ok (.iload_n 1, 1) := by decide +kernel
theorem dX11_image_77 : decode cX11_image 77 = .ok (.aload_n 0, 1) := by decide +kernel
theorem dX11_image_78 : decode cX11_image 78 = .ok (.getfield 16, 3) := by decide +kernel
theorem dX11_image_81 : decode cX11_image 81 = .ok (.iload_n 1, 1) := by decide +kernel
theorem dX11_image_82 : decode cX11_image 82 = .ok (.iaload, 1) := by decide +kernel
theorem dX11_image_83 : decode cX11_image 83 = .ok (.iastore, 1) := by decide +kernel
theorem dX11_image_84 : decode cX11_image 84 = .ok (.aload_n 0, 1) := by decide +kernel
theorem dX11_image_85 : decode cX11_image 85 = .ok (.getfield 62, 3) := by decide +kernel
theorem dX11_image_88 : decode cX11_image 88 = .ok (.iload_n 1, 1) := by decide +kernel
theorem dX11_image_89 : decode cX11_image 89 = .ok (.aload_n 0, 1) := by decide +kernel
theorem dX11_image_90 : decode cX11_image 90 = .ok (.getfield 28, 3) := by decide +kernel
theorem dX11_image_93 : decode cX11_image 93 = .ok (.iload_n 1, 1) := by decide +kernel
theorem dX11_image_94 : decode cX11_image 94 = .ok (.iaload, 1) := by decide +kernel
theorem dX11_image_95 : decode cX11_image 95 = .ok (.iastore, 1) := by decide +kernel
theorem dX11_image_96 : decode cX11_image 96 = .ok (.aload_n 0, 1) := by decide +kernel
theorem dX11_image_97 : decode cX11_image 97 = .ok (.getfield 65, 3) := by decide +kernel
theorem dX11_image_100 : decode cX11_image 100 = .ok (.iload_n 1, 1) := by decide +kernel
theorem dX11_image_101 : decode cX11_image 101 = .ok (.aload_n 0, 1) := by decide +kernel
theorem dX11_image_102 : decode cX11_image 102 = .ok (.getfield 25, 3) := by decide +kernel
theorem dX11_image_105 : decode cX11_image 105 = .ok (.iload_n 1, 1) := by decide +kernel
theorem dX11_image_106 : decode cX11_image 106 = .ok (.iaload, 1) := by decide +kernel
theorem dX11_image_107 : decode cX11_image 107 = .ok (.iastore, 1) := by decide +kernel
theorem dX11_image_108 : decode cX11_image 108 = .ok (.iinc 1 1, 3) := by decide +kernel
theorem dX11_image_111 : decode cX11_image 111 = .ok (.goto (-44), 3) := by decide +kernel
theorem dX11_image_114 : decode cX11_image 114 = .ok (.iconst 0, 1) := by decide +kernel
theorem dX11_image_115 : decode cX11_image 115 = .ok (.istore_n 1, 1) := by decide +kernel
theorem dX11_image_116 : decode cX11_image 116 = .ok (.iload_n 1, 1) := by decide +kernel
theorem dX11_image_117 : decode cX11_image 117 = .ok (.bipush 6, 2) := by decide +kernel
theorem dX11_image_119 : decode cX11_image 119 = .ok (.if_icmp .ge 45, 3) := by decide +kernel
theorem dX11_image_122 : decode cX11_image 122 = .ok (.aload_n 0, 1) := by decide +kernel
theorem dX11_image_123 : decode cX11_image 123 = .ok (.getfield 68, 3) := by decide +kernel
theorem dX11_image_126 : decode cX11_image 126 = .ok (.iload_n 1, 1) := by decide +kernel
theorem dX11_image_127 : decode cX11_image 127 = .ok (.aload_n 0, 1) := by decide +kernel
theorem dX11_image_128 : decode cX11_image 128 = .ok (.getfield 34, 3) := by decide +kernel
theorem dX11_image_131 : decode cX11_image 131 = .ok (.iload_n 1, 1) := by decide +kernel
theorem dX11_image_132 : decode cX11_image 132 = .ok (.iaload, 1) := by decide +kernel
theorem dX11_image_133 : decode cX11_image 133 = .ok (.iastore, 1) := by decide +kernel
theorem dX11_image_134 : decode cX11_image 134 = .ok (.aload_n 0, 1) := by decide +kernel
theorem dX11_image_135 : decode cX11_image 135 = .ok (.getfield 71, 3) := by decide +kernel
theorem dX11_image_138 : decode cX11_image 138 = .ok (.iload_n 1, 1) := by decide +kernel
theorem dX11_image_139 : decode cX11_image 139 = .ok (.aload_n 0, 1) := by decide +kernel
theorem dX11_image_140 : decode cX11_image 140 = .ok (.getfield 37, 3) := by decide +kernel
theorem dX11_image_143 : decode cX11_image 143 = .ok (.iload_n 1, 1) := by decide +kernel
theorem dX11_image_144 : decode cX11_image 144 = .ok (.iaload, 1) := by decide +kernel
theorem dX11_image_145 : decode cX11_image 145 = .ok (.iastore, 1) := by decide +kernel
theorem dX11_image_146 : decode cX11_image 146 = .ok (.aload_n 0, 1) := by decide +kernel
theorem dX11_image_147 : decode cX11_image 147 = .ok (.getfield 74, 3) := by decide +kernel
theorem dX11_image_150 : decode cX11_image 150 = .ok (.iload_n 1, 1) := by decide +kernel
theorem dX11_image_151 : decode cX11_image 151 = .ok (.aload_n 0, 1) := by decide +kernel
theorem dX11_image_152 : decode cX11_image 152 = .ok (.getfield 40, 3) := by decide +kernel
theorem dX11_image_155 : decode cX11_image 155 = .ok (.iload_n 1, 1) := by decide +kernel
theorem dX11_image_156 : decode cX11_image 156 = .ok (.iaload, 1) := by decide +kernel
theorem dX11_image_157 : decode cX11_image 157 = .ok (.iastore, 1) := by decide +kernel
theorem dX11_image_158 : decode cX11_image 158 = .ok (.iinc 1 1, 3) := by decide +kernel
theorem dX11_image_161 : decode cX11_image 161 = .ok (.goto (-45), 3) := by decide +kernel
theorem dX11_image_164 : decode cX11_image 164 = .ok (.aload_n 0, 1) := by decide +kernel
theorem dX11_image_165 : decode cX11_image 165 = .ok (.invokevirtual 279, 3) := by decide +kernel
theorem dX11_image_168 : decode cX11_image 168 = .ok (.ireturn, 1) := by decide +kernel
theorem dX11_restore_0 : decode cX11_restore 0 = .ok (.aload_n 0, 1) := by decide +kernel
theorem dX11_restore_1 : decode cX11_restore 1 = .ok (.getfield 267, 3) := by decide +kernel
theorem dX11_restore_4 : decode cX11_restore 4 = .ok (.ifCond .eq 14, 3) := by decide +kernel
theorem dX11_restore_7 : decode cX11_restore 7 = .ok (.aload_n 0, 1) := by decide +kernel
theorem dX11_restore_8 : decode cX11_restore 8 = .ok (.getfield 270, 3) := by decide +kernel
theorem dX11_restore_11 : decode cX11_restore 11 = .ok (.aload_n 0, 1) := by decide +kernel
theorem dX11_restore_12 : decode cX11_restore 12 = .ok (.getfield 113, 3) := by decide +kernel
theorem dX11_restore_15 : decode cX11_restore 15 = .ok (.if_icmp .eq 6, 3) := by decide +kernel
theorem dX11_restore_18 : decode cX11_restore 18 = .ok (.bipush (-103), 2) := by decide +kernel
theorem dX11_restore_20 : decode cX11_restore 20 = .ok (.ireturn, 1) := by decide +kernel
theorem dX11_restore_21 : decode cX11_restore 21 = .ok (.aload_n 0, 1) := by decide +kernel
theorem dX11_restore_22 : decode cX11_restore 22 = .ok (.aload_n 0, 1) := by decide +kernel
theorem dX11_restore_23 : decode cX11_restore 23 = .ok (.getfield 273, 3) := by decide +kernel
theorem dX11_restore_26 : decode cX11_restore 26 = .ok (.putfield 116, 3) := by decide +kernel
theorem dX11_restore_29 : decode cX11_restore 29 = .ok (.aload_n 0, 1) := by decide +kernel
theorem dX11_restore_30 : decode cX11_restore 30 = .ok (.aload_n 0, 1) := by decide +kernel
theorem dX11_restore_31 : decode cX11_restore 31 = .ok (.getfield 276, 3) := by decide +kernel
theorem dX11_restore_34 : decode cX11_restore 34 = .ok (.putfield 119, 3) := by decide +kernel
theorem dX11_restore_37 : decode cX11_restore 37 = .ok (.iconst 0, 1) := by decide +kernel
theorem dX11_restore_38 : decode cX11_restore 38 = .ok (.istore_n 1, 1) := by decide +kernel
theorem dX11_restore_39 : decode cX11_restore 39 = .ok (.iload_n 1, 1) := by decide +kernel
theorem dX11_restore_40 : decode cX11_restore 40 = .ok (.bipush 9, 2) := by decide +kernel
theorem dX11_restore_42 : decode cX11_restore 42 = .ok (.if_icmp .ge 21, 3) := by decide +kernel
theorem dX11_restore_45 : decode cX11_restore 45 = .ok (.aload_n 0, 1) := by decide +kernel
theorem dX11_restore_46 : decode cX11_restore 46 = .ok (.getfield 31, 3) := by decide +kernel
theorem dX11_restore_49 : decode cX11_restore 49 = .ok (.iload_n 1, 1) := by decide +kernel
theorem dX11_restore_50 : decode cX11_restore 50 = .ok (.aload_n 0, 1) := by decide +kernel
theorem dX11_restore_51 : decode cX11_restore 51 = .ok (.getfield 56, 3) := by decide +kernel
theorem dX11_restore_54 : decode cX11_restore 54 = .ok (.iload_n 1, 1) := by decide +kernel
theorem dX11_restore_55 : decode cX11_restore 55 = .ok (.iaload, 1) := by decide +kernel
theorem dX11_restore_56 : decode cX11_restore 56 = .ok (.iastore, 1) := by decide +kernel
theorem dX11_restore_57 : decode cX11_restore 57 = .ok (.iinc 1 1, 3) := by decide +kernel
theorem dX11_restore_60 : decode cX11_restore 60 = .ok (.goto (-21), 3) := by decide +kernel
theorem dX11_restore_63 : decode cX11_restore 63 = .ok (.iconst 0, 1) := by decide +kernel
theorem dX11_restore_64 : decode cX11_restore 64 = .ok (.istore_n 1, 1) := by decide +kernel
theorem dX11_restore_65 : decode cX11_restore 65 = .ok (.iload_n 1, 1) := by decide +kernel
theorem dX11_restore_66 : decode cX11_restore 66 = .ok (.iconst 3, 1) := by decide +kernel
theorem dX11_restore_67 : decode cX11_restore 67 = .ok (.if_icmp .ge 45, 3) := by decide +kernel
theorem dX11_restore_70 : decode cX11_restore 70 = .ok (.aload_n 0, 1) := by decide +kernel
theorem dX11_restore_71 : decode cX11_restore 71 = .ok (.getfield 16, 3) := by decide +kernel
theorem dX11_restore_74 : decode cX11_restore 74 = .ok (.iload_n 1, 1) := by decide +kernel
theorem dX11_restore_75 : decode cX11_restore 75 = .ok (.aload_n 0, 1) := by decide +kernel
theorem dX11_restore_76 : decode cX11_restore 76 = .ok (.getfield 59, 3) := by decide +kernel
theorem dX11_restore_79 : decode cX11_restore 79 = .ok (.iload_n 1, 1) := by decide +kernel
theorem dX11_restore_80 : decode cX11_restore 80 = .ok (.iaload, 1) := by decide +kernel
theorem dX11_restore_81 : decode cX11_restore 81 = .ok (.iastore, 1) := by decide +kernel
theorem dX11_restore_82 : decode cX11_restore 82 = .ok (.aload_n 0, 1) := by decide +kernel
theorem dX11_restore_83 : decode cX11_restore 83 = .ok (.getfield 28, 3) := by decide +kernel
theorem dX11_restore_86 : decode cX11_restore 86 = .ok (.iload_n 1, 1) := by decide +kernel
theorem dX11_restore_87 : decode cX11_restore 87 = .ok (.aload_n 0, 1) := by decide +kernel
theorem dX11_restore_88 : decode cX11_restore 88 = .ok (.getfield 62, 3) := by decide +kernel
theorem dX11_restore_91 : decode cX11_restore 91 = .ok (.iload_n 1, 1) := by decide +kernel
theorem dX11_restore_92 : decode cX11_restore 92 = .ok (.iaload, 1) := by decide +kernel
theorem dX11_restore_93 : decode cX11_restore 93 = .ok (.iastore, 1) := by decide +kernel
theorem dX11_restore_94 : decode cX11_restore 94 = .ok (.aload_n 0, 1) := by decide +kernel
theorem dX11_restore_95 : decode cX11_restore 95 = .ok (.getfield 25, 3) := by decide +kernel
theorem dX11_restore_98 : decode cX11_restore 98 = .ok (.iload_n 1, 1) := by decide +kernel
theorem dX11_restore_99 : decode cX11_restore 99 = .ok (.aload_n 0, 1) := by decide +kernel
theorem dX11_restore_100 : decode cX11_restore 100 = .ok (.getfield 65, 3) := by decide +kernel
theorem dX11_restore_103 : decode cX11_restore 103 = .ok (.iload_n 1, 1) := by decide +kernel
theorem dX11_restore_104 : decode cX11_restore 104 = .ok (.iaload, 1) := by decide +kernel
theorem dX11_restore_105 : decode cX11_restore 105 = .ok (.iastore, 1) := by decide +kernel
theorem dX11_restore_106 : decode cX11_restore 106 = .ok (.iinc 1 1, 3) := by decide +kernel
theorem dX11_restore_109 : decode cX11_restore 109 = .ok (.goto (-44), 3) := by decide +kernel
theorem dX11_restore_112 : decode cX11_restore 112 = .ok (.iconst 0, 1) := by decide +kernel
theorem dX11_restore_113 : decode cX11_restore 113 = .ok (.istore_n 1, 1) := by decide +kernel
theorem dX11_restore_114 : decode cX11_restore 114 = .ok (.iload_n 1, 1) := by decide +kernel
theorem dX11_restore_115 : decode cX11_restore 115 = .ok (.bipush 6, 2) := by decide +kernel
theorem dX11_restore_117 : decode cX11_restore 117 = .ok (.if_icmp .ge 45, 3) := by decide +kernel
theorem dX11_restore_120 : decode cX11_restore 120 = .ok (.aload_n 0, 1) := by decide +kernel
theorem dX11_restore_121 : decode cX11_restore 121 = .ok (.getfield 34, 3) := by decide +kernel
theorem dX11_restore_124 : decode cX11_restore 124 = .ok (.iload_n 1, 1) := by decide +kernel
theorem dX11_restore_125 : decode cX11_restore 125 = .ok (.aload_n 0, 1) := by decide +kernel
theorem dX11_restore_126 : decode cX11_restore 126 = .ok (.getfield 68, 3) := by decide +kernel
theorem dX11_restore_129 : decode cX11_restore 129 = .ok (.iload_n 1, 1) := by decide +kernel
theorem dX11_restore_130 : decode cX11_restore 130 = .ok (.iaload, 1) := by decide +kernel
theorem dX11_restore_131 : decode cX11_restore 131 = .ok (.iastore, 1) := by decide +kernel
theorem dX11_restore_132 : decode cX11_restore 132 = .ok (.aload_n 0, 1) := by decide +kernel
theorem dX11_restore_133 : decode cX11_restore 133 = .ok (.getfield 37, 3) := by decide +kernel
theorem dX11_restore_136 : decode cX11_restore 136 = .ok (.iload_n 1, 1) := by decide +kernel
theorem dX11_restore_137 : decode cX11_restore 137 = .ok (.aload_n 0, 1) := by decide +kernel
theorem dX11_restore_138 : decode cX11_restore 138 = .ok (.getfield 71, 3) := by decide +kernel
theorem dX11_restore_141 : decode cX11_restore 141 = .ok (.iload_n 1, 1) := by decide +kernel
theorem dX11_restore_142 : decode cX11_restore 142 = .ok (.iaload, 1) := by decide +kernel
theorem dX11_restore_143 : decode cX11_restore 143 = .ok (.iastore, 1) := by decide +kernel
theorem dX11_restore_144 : decode cX11_restore 144 = .ok (.aload_n 0, 1) := by decide +kernel
theorem dX11_restore_145 : decode cX11_restore 145 = .ok (.getfield 40, 3) := by decide +kernel
theorem dX11_restore_148 : decode cX11_restore 148 = .ok (.iload_n 1, 1) := by decide +kernel
theorem dX11_restore_149 : decode cX11_restore 149 = .ok (.aload_n 0, 1) := by decide +kernel
theorem dX11_restore_150 : decode cX11_restore 150 = .ok (.getfield 74, 3) := by decide +kernel
theorem dX11_restore_153 : decode cX11_restore 153 = .ok (.iload_n 1, 1) := by decide +kernel
theorem dX11_restore_154 : decode cX11_restore 154 = .ok (.iaload, 1) := by decide +kernel
theorem dX11_restore_155 : decode cX11_restore 155 = .ok (.iastore, 1) := by decide +kernel
theorem dX11_restore_156 : decode cX11_restore 156 = .ok (.iinc 1 1, 3) := by decide +kernel
theorem dX11_restore_159 : decode cX11_restore 159 = .ok (.goto (-45), 3) := by decide +kernel
theorem dX11_restore_162 : decode cX11_restore 162 = .ok (.aload_n 0, 1) := by decide +kernel
theorem dX11_restore_163 : decode cX11_restore 163 = .ok (.invokevirtual 279, 3) := by decide +kernel
theorem dX11_restore_166 : decode cX11_restore 166 = .ok (.ireturn, 1) := by decide +kernel
theorem dX11_howMany_0 : decode cX11_howMany 0 = .ok (.iload_n 1, 1) := by decide +kernel
theorem dX11_howMany_1 : decode cX11_howMany 1 = .ok (.tableswitch 96 0 8 #[51, 56, 61, 66, 71, 76, 81, 86, 91], 51) := by decide +kernel
theorem dX11_howMany_52 : decode cX11_howMany 52 = .ok (.aload_n 0, 1) := by decide +kernel
theorem dX11_howMany_53 : decode cX11_howMany 53 = .ok (.getfield 107, 3) := by decide +kernel
theorem dX11_howMany_56 : decode cX11_howMany 56 = .ok (.ireturn, 1) := by decide +kernel
theorem dX11_howMany_57 : decode cX11_howMany 57 = .ok (.aload_n 0, 1) := by decide +kernel
theorem dX11_howMany_58 : decode cX11_howMany 58 = .ok (.getfield 110, 3) := by decide +kernel
theorem dX11_howMany_61 : decode cX11_howMany 61 = .ok (.ireturn, 1) := by decide +kernel
theorem dX11_howMany_62 : decode cX11_howMany 62 = .ok (.aload_n 0, 1) := by decide +kernel
theorem dX11_howMany_63 : decode cX11_howMany 63 = .ok (.getfield 116, 3) := by decide +kernel
theorem dX11_howMany_66 : decode cX11_howMany 66 = .ok (.ireturn, 1) := by decide +kernel
theorem dX11_howMany_67 : decode cX11_howMany 67 = .ok (.aload_n 0, 1) := by decide +kernel
theorem dX11_howMany_68 : decode cX11_howMany 68 = .ok (.invokevirtual 279, 3) := by decide +kernel
theorem dX11_howMany_71 : decode cX11_howMany 71 = .ok (.ireturn, 1) := by decide +kernel
theorem dX11_howMany_72 : decode cX11_howMany 72 = .ok (.aload_n 0, 1) := by decide +kernel
theorem dX11_howMany_73 : decode cX11_howMany 73 = .ok (.invokevirtual 258, 3) := by decide +kernel
theorem dX11_howMany_76 : decode cX11_howMany 76 = .ok (.ireturn, 1) := by decide +kernel
theorem dX11_howMany_77 : decode cX11_howMany 77 = .ok (.aload_n 0, 1) := by decide +kernel
theorem dX11_howMany_78 : decode cX11_howMany 78 = .ok (.getfield 119, 3) := by decide +kernel
theorem dX11_howMany_81 : decode cX11_howMany 81 = .ok (.ireturn, 1) := by decide +kernel
theorem dX11_howMany_82 : decode cX11_howMany 82 = .ok (.aload_n 0, 1) := by decide +kernel
theorem dX11_howMany_83 : decode cX11_howMany 83 = .ok (.getfield 81, 3) := by decide +kernel
theorem dX11_howMany_86 : decode cX11_howMany 86 = .ok (.ireturn, 1) := by decide +kernel
theorem dX11_howMany_87 : decode cX11_howMany 87 = .ok (.aload_n 0, 1) := by decide +kernel
theorem dX11_howMany_88 : decode cX11_howMany 88 = .ok (.getfield 113, 3) := by decide +kernel
theorem dX11_howMany_91 : decode cX11_howMany 91 = .ok (.ireturn, 1) := by decide +kernel
theorem dX11_howMany_92 : decode cX11_howMany 92 = .ok (.aload_n 0, 1) := by decide +kernel
theorem dX11_howMany_93 : decode cX11_howMany 93 = .ok (.getfield 204, 3) := by decide +kernel
theorem dX11_howMany_96 : decode cX11_howMany 96 = .ok (.ireturn, 1) := by decide +kernel
theorem dX11_howMany_97 : decode cX11_howMany 97 = .ok (.bipush (-102), 2) := by decide +kernel
theorem dX11_howMany_99 : decode cX11_howMany 99 = .ok (.ireturn, 1) := by decide +kernel
theorem dX11_count_0 : decode cX11_count 0 = .ok (.aload_n 0, 1) := by decide +kernel
theorem dX11_count_1 : decode cX11_count 1 = .ok (.iload_n 1, 1) := by decide +kernel
theorem dX11_count_2 : decode cX11_count 2 = .ok (.invokevirtual 282, 3) := by decide +kernel
theorem dX11_count_5 : decode cX11_count 5 = .ok (.ireturn, 1) := by decide +kernel
theorem dX11_mix_0 : decode cX11_mix 0 = .ok (.aload_n 0, 1) := by decide +kernel
theorem dX11_mix_1 : decode cX11_mix 1 = .ok (.ldc2_w 285, 3) := by decide +kernel
theorem dX11_mix_4 : decode cX11_mix 4 = .ok (.aload_n 0, 1) := by decide +kernel
theorem dX11_mix_5 : decode cX11_mix 5 = .ok (.getfield 287, 3) := by decide +kernel
theorem dX11_mix_8 : decode cX11_mix 8 = .ok (.lmul, 1) := by decide +kernel
theorem dX11_mix_9 : decode cX11_mix 9 = .ok (.lload_n 1, 1) := by decide +kernel
theorem dX11_mix_10 : decode cX11_mix 10 = .ok (.ladd, 1) := by decide +kernel
theorem dX11_mix_11 : decode cX11_mix 11 = .ok (.putfield 287, 3) := by decide +kernel
theorem dX11_mix_14 : decode cX11_mix 14 = .ok (.return_, 1) := by decide +kernel
theorem dX11_mixLesson_0 : decode cX11_mixLesson 0 = .ok (.iconst 0, 1) := by decide +kernel
theorem dX11_mixLesson_1 : decode cX11_mixLesson 1 = .ok (.istore_n 2, 1) := by decide +kernel
theorem dX11_mixLesson_2 : decode cX11_mixLesson 2 = .ok (.iload_n 2, 1) := by decide +kernel
theorem dX11_mixLesson_3 : decode cX11_mixLesson 3 = .ok (.iconst 3, 1) := by decide +kernel
theorem dX11_mixLesson_4 : decode cX11_mixLesson 4 = .ok (.if_icmp .ge 20, 3) := by decide +kernel
theorem dX11_mixLesson_7 : decode cX11_mixLesson 7 = .ok (.aload_n 0, 1) := by decide +kernel
theorem dX11_mixLesson_8 : decode cX11_mixLesson 8 = .ok (.aload_n 0, 1) := by decide +kernel
theorem dX11_mixLesson_9 : decode cX11_mixLesson 9 = .ok (.iload_n 1, 1) := by decide +kernel
theorem dX11_mixLesson_10 : decode cX11_mixLesson 10 = .ok (.iload_n 2, 1) := by decide +kernel
theorem dX11_mixLesson_11 : decode cX11_mixLesson 11 = .ok (.invokevirtual 132, 3) := by decide +kernel
theorem dX11_mixLesson_14 : decode cX11_mixLesson 14 = .ok (.i2l, 1) := by decide +kernel
theorem dX11_mixLesson_15 : decode cX11_mixLesson 15 = .ok (.invokevirtual 290, 3) := by decide +kernel
theorem dX11_mixLesson_18 : decode cX11_mixLesson 18 = .ok (.iinc 2 1, 3) := by decide +kernel
theorem dX11_mixLesson_21 : decode cX11_mixLesson 21 = .ok (.goto (-19), 3) := by decide +kernel
theorem dX11_mixLesson_24 : decode cX11_mixLesson 24 = .ok (.aload_n 0, 1) := by decide +kernel
theorem dX11_mixLesson_25 : decode cX11_mixLesson 25 = .ok (.aload_n 0, 1) := by decide +kernel
theorem dX11_mixLesson_26 : decode cX11_mixLesson 26 = .ok (.iload_n 1, 1) := by decide +kernel
theorem dX11_mixLesson_27 : decode cX11_mixLesson 27 = .ok (.iconst 0, 1) := by decide +kernel
theorem dX11_mixLesson_28 : decode cX11_mixLesson 28 = .ok (.invokevirtual 219, 3) := by decide +kernel
theorem dX11_mixLesson_31 : decode cX11_mixLesson 31 = .ok (.i2l, 1) := by decide +kernel
theorem dX11_mixLesson_32 : decode cX11_mixLesson 32 = .ok (.invokevirtual 290, 3) := by decide +kernel
theorem dX11_mixLesson_35 : decode cX11_mixLesson 35 = .ok (.aload_n 0, 1) := by decide +kernel
theorem dX11_mixLesson_36 : decode cX11_mixLesson 36 = .ok (.aload_n 0, 1) := by decide +kernel
theorem dX11_mixLesson_37 : decode cX11_mixLesson 37 = .ok (.iload_n 1, 1) := by decide +kernel
theorem dX11_mixLesson_38 : decode cX11_mixLesson 38 = .ok (.iconst 1, 1) := by decide +kernel
theorem dX11_mixLesson_39 : decode cX11_mixLesson 39 = .ok (.invokevirtual 219, 3) := by decide +kernel
theorem dX11_mixLesson_42 : decode cX11_mixLesson 42 = .ok (.i2l, 1) := by decide +kernel
theorem dX11_mixLesson_43 : decode cX11_mixLesson 43 = .ok (.invokevirtual 290, 3) := by decide +kernel
theorem dX11_mixLesson_46 : decode cX11_mixLesson 46 = .ok (.bipush 10, 2) := by decide +kernel
theorem dX11_mixLesson_48 : decode cX11_mixLesson 48 = .ok (.istore_n 2, 1) := by decide +kernel
theorem dX11_mixLesson_49 : decode cX11_mixLesson 49 = .ok (.iload_n 2, 1) := by decide +kernel
theorem dX11_mixLesson_50 : decode cX11_mixLesson 50 = .ok (.bipush 13, 2) := by decide +kernel
theorem dX11_mixLesson_52 : decode cX11_mixLesson 52 = .ok (.if_icmp .ge 20, 3) := by decide +kernel
theorem dX11_mixLesson_55 : decode cX11_mixLesson 55 = .ok (.aload_n 0, 1) := by decide +kernel
theorem dX11_mixLesson_56 : decode cX11_mixLesson 56 = .ok (.aload_n 0, 1) := by decide +kernel
theorem dX11_mixLesson_57 : decode cX11_mixLesson 57 = .ok (.iload_n 1, 1) := by decide +kernel
theorem dX11_mixLesson_58 : decode cX11_mixLesson 58 = .ok (.iload_n 2, 1) := by decide +kernel
theorem dX11_mixLesson_59 : decode cX11_mixLesson 59 = .ok (.invokevirtual 219, 3) := by decide +kernel
theorem dX11_mixLesson_62 : decode cX11_mixLesson 62 = .ok (.i2l, 1) := by decide +kernel
theorem dX11_mixLesson_63 : decode cX11_mixLesson 63 = .ok (.invokevirtual 290, 3) := by decide +kernel
theorem dX11_mixLesson_66 : decode cX11_mixLesson 66 = .ok (.iinc 2 1, 3) := by decide +kernel
theorem dX11_mixLesson_69 : decode cX11_mixLesson 69 = .ok (.goto (-20), 3) := by decide +kernel
theorem dX11_mixLesson_72 : decode cX11_mixLesson 72 = .ok (.return_, 1) := by decide +kernel
theorem dX11_mixPrince_0 : decode cX11_mixPrince 0 = .ok (.iconst 0, 1) := by decide +kernel
theorem dX11_mixPrince_1 : decode cX11_mixPrince 1 = .ok (.istore_n 2, 1) := by decide +kernel
theorem dX11_mixPrince_2 : decode cX11_mixPrince 2 = .ok (.iload_n 2, 1) := by decide +kernel
theorem dX11_mixPrince_3 : decode cX11_mixPrince 3 = .ok (.bipush 13, 2) := by decide +kernel
theorem dX11_mixPrince_5 : decode cX11_mixPrince 5 = .ok (.if_icmp .ge 31, 3) := by decide +kernel
theorem dX11_mixPrince_8 : decode cX11_mixPrince 8 = .ok (.iload_n 2, 1) := by decide +kernel
theorem dX11_mixPrince_9 : decode cX11_mixPrince 9 = .ok (.iconst 5, 1) := by decide +kernel
theorem dX11_mixPrince_10 : decode cX11_mixPrince 10 = .ok (.if_icmp .lt 9, 3) := by decide +kernel
theorem dX11_mixPrince_13 : decode cX11_mixPrince 13 = .ok (.iload_n 2, 1) := by decide +kernel
theorem dX11_mixPrince_14 : decode cX11_mixPrince 14 = .ok (.bipush 9, 2) := by decide +kernel
theorem dX11_mixPrince_16 : decode cX11_mixPrince 16 = .ok (.if_icmp .le 14, 3) := by decide +kernel
theorem dX11_mixPrince_19 : decode cX11_mixPrince 19 = .ok (.aload_n 0, 1) := by decide +kernel
theorem dX11_mixPrince_20 : decode cX11_mixPrince 20 = .ok (.aload_n 0, 1) := by decide +kernel
theorem dX11_mixPrince_21 : decode cX11_mixPrince 21 = .ok (.iload_n 1, 1) := by decide +kernel
theorem dX11_mixPrince_22 : decode cX11_mixPrince 22 = .ok (.iload_n 2, 1) := by decide +kernel
theorem dX11_mixPrince_23 : decode cX11_mixPrince 23 = .ok (.invokevirtual 152, 3) := by decide +kernel
theorem dX11_mixPrince_26 : decode cX11_mixPrince 26 = .ok (.i2l, 1) := by decide +kernel
theorem dX11_mixPrince_27 : decode cX11_mixPrince 27 = .ok (.invokevirtual 290, 3) := by decide +kernel
theorem dX11_mixPrince_30 : decode cX11_mixPrince 30 = .ok (.iinc 2 1, 3) := by decide +kernel
theorem dX11_mixPrince_33 : decode cX11_mixPrince 33 = .ok (.goto (-31), 3) := by decide +kernel
theorem dX11_mixPrince_36 : decode cX11_mixPrince 36 = .ok (.iconst 0, 1) := by decide +kernel
theorem dX11_mixPrince_37 : decode cX11_mixPrince 37 = .ok (.istore_n 2, 1) := by decide +kernel
theorem dX11_mixPrince_38 : decode cX11_mixPrince 38 = .ok (.iload_n 2, 1) := by decide +kernel
theorem dX11_mixPrince_39 : decode cX11_mixPrince 39 = .ok (.aload_n 0, 1) := by decide +kernel
theorem dX11_mixPrince_40 : decode cX11_mixPrince 40 = .ok (.getfield 107, 3) := by decide +kernel
theorem dX11_mixPrince_43 : decode cX11_mixPrince 43 = .ok (.if_icmp .ge 20, 3) := by decide +kernel
theorem dX11_mixPrince_46 : decode cX11_mixPrince 46 = .ok (.aload_n 0, 1) := by decide +kernel
theorem dX11_mixPrince_47 : decode cX11_mixPrince 47 = .ok (.aload_n 0, 1) := by decide +kernel
theorem dX11_mixPrince_48 : decode cX11_mixPrince 48 = .ok (.iload_n 1, 1) := by decide +kernel
theorem dX11_mixPrince_49 : decode cX11_mixPrince 49 = .ok (.iload_n 2, 1) := by decide +kernel
theorem dX11_mixPrince_50 : decode cX11_mixPrince 50 = .ok (.invokevirtual 155, 3) := by decide +kernel
theorem dX11_mixPrince_53 : decode cX11_mixPrince 53 = .ok (.i2l, 1) := by decide +kernel
theorem dX11_mixPrince_54 : decode cX11_mixPrince 54 = .ok (.invokevirtual 290, 3) := by decide +kernel
theorem dX11_mixPrince_57 : decode cX11_mixPrince 57 = .ok (.iinc 2 1, 3) := by decide +kernel
theorem dX11_mixPrince_60 : decode cX11_mixPrince 60 = .ok (.goto (-22), 3) := by decide +kernel
theorem dX11_mixPrince_63 : decode cX11_mixPrince 63 = .ok (.aload_n 0, 1) := by decide +kernel
theorem dX11_mixPrince_64 : decode cX11_mixPrince 64 = .ok (.aload_n 0, 1) := by decide +kernel
theorem dX11_mixPrince_65 : decode cX11_mixPrince 65 = .ok (.iload_n 1, 1) := by decide +kernel
theorem dX11_mixPrince_66 : decode cX11_mixPrince 66 = .ok (.invokevirtual 231, 3) := by decide +kernel
theorem dX11_mixPrince_69 : decode cX11_mixPrince 69 = .ok (.i2l, 1) := by decide +kernel
theorem dX11_mixPrince_70 : decode cX11_mixPrince 70 = .ok (.invokevirtual 290, 3) := by decide +kernel
theorem dX11_mixPrince_73 : decode cX11_mixPrince 73 = .ok (.return_, 1) := by decide +kernel
theorem dX11_digest_0 : decode cX11_digest 0 = .ok (.aload_n 0, 1) := by decide +kernel
theorem dX11_digest_1 : decode cX11_digest 1 = .ok (.ldc2_w 294, 3) := by decide +kernel
theorem dX11_digest_4 : decode cX11_digest 4 = .ok (.putfield 287, 3) := by decide +kernel
theorem dX11_digest_7 : decode cX11_digest 7 = .ok (.iconst 0, 1) := by decide +kernel
theorem dX11_digest_8 : decode cX11_digest 8 = .ok (.istore_n 1, 1) := by decide +kernel
theorem dX11_digest_9 : decode cX11_digest 9 = .ok (.iload_n 1, 1) := by decide +kernel
theorem dX11_digest_10 : decode cX11_digest 10 = .ok (.iconst 3, 1) := by decide +kernel
theorem dX11_digest_11 : decode cX11_digest 11 = .ok (.if_icmp .ge 27, 3) := by decide +kernel
theorem dX11_digest_14 : decode cX11_digest 14 = .ok (.aload_n 0, 1) := by decide +kernel
theorem dX11_digest_15 : decode cX11_digest 15 = .ok (.getfield 107, 3) := by decide +kernel
theorem dX11_digest_18 : decode cX11_digest 18 = .ok (.ifCond .le 20, 3) := by decide +kernel
theorem dX11_digest_21 : decode cX11_digest 21 = .ok (.aload_n 0, 1) := by decide +kernel
theorem dX11_digest_22 : decode cX11_digest 22 = .ok (.aload_n 0, 1) := by decide +kernel
theorem dX11_digest_23 : decode cX11_digest 23 = .ok (.getfield 16, 3) := by decide +kernel
theorem dX11_digest_26 : decode cX11_digest 26 = .ok (.iload_n 1, 1) := by decide +kernel
theorem dX11_digest_27 : decode cX11_digest 27 = .ok (.iaload, 1) := by decide +kernel
theorem dX11_digest_28 : decode cX11_digest 28 = .ok (.i2l, 1) := by decide +kernel
theorem dX11_digest_29 : decode cX11_digest 29 = .ok (.invokevirtual 290, 3) := by decide +kernel
theorem dX11_digest_32 : decode cX11_digest 32 = .ok (.iinc 1 1, 3) := by decide +kernel
theorem dX11_digest_35 : decode cX11_digest 35 = .ok (.goto (-26), 3) := by decide +kernel
theorem dX11_digest_38 : decode cX11_digest 38 = .ok (.iconst 0, 1) := by decide +kernel
theorem dX11_digest_39 : decode cX11_digest 39 = .ok (.istore_n 1, 1) := by decide +kernel
theorem dX11_digest_40 : decode cX11_digest 40 = .ok (.iload_n 1, 1) := by decide +kernel
theorem dX11_digest_41 : decode cX11_digest 41 = .ok (.aload_n 0, 1) := by decide +kernel
theorem dX11_digest_42 : decode cX11_digest 42 = .ok (.getfield 107, 3) := by decide +kernel
theorem dX11_digest_45 : decode cX11_digest 45 = .ok (.if_icmp .ge 14, 3) := by decide +kernel
theorem dX11_digest_48 : decode cX11_digest 48 = .ok (.aload_n 0, 1) := by decide +kernel
theorem dX11_digest_49 : decode cX11_digest 49 = .ok (.iload_n 1, 1) := by decide +kernel
theorem dX11_digest_50 : decode cX11_digest 50 = .ok (.invokevirtual 296, 3) := by decide +kernel
theorem dX11_digest_53 : decode cX11_digest 53 = .ok (.iinc 1 1, 3) := by decide +kernel
theorem dX11_digest_56 : decode cX11_digest 56 = .ok (.goto (-16), 3) := by decide +kernel
theorem dX11_digest_59 : decode cX11_digest 59 = .ok (.iconst 0, 1) := by decide +kernel
theorem dX11_digest_60 : decode cX11_digest 60 = .ok (.istore_n 1, 1) := by decide +kernel
theorem dX11_digest_61 : decode cX11_digest 61 = .ok (.iload_n 1, 1) := by decide +kernel
theorem dX11_digest_62 : decode cX11_digest 62 = .ok (.aload_n 0, 1) := by decide +kernel
theorem dX11_digest_63 : decode cX11_digest 63 = .ok (.getfield 116, 3) := by decide +kernel
theorem dX11_digest_66 : decode cX11_digest 66 = .ok (.if_icmp .ge 14, 3) := by decide +kernel
theorem dX11_digest_69 : decode cX11_digest 69 = .ok (.aload_n 0, 1) := by decide +kernel
theorem dX11_digest_70 : decode cX11_digest 70 = .ok (.iload_n 1, 1) := by decide +kernel
theorem dX11_digest_71 : decode cX11_digest 71 = .ok (.invokevirtual 299, 3) := by decide +kernel
theorem dX11_digest_74 : decode cX11_digest 74 = .ok (.iinc 1 1, 3) := by decide +kernel
theorem dX11_digest_77 : decode cX11_digest 77 = .ok (.goto (-16), 3) := by decide +kernel
theorem dX11_digest_80 : decode cX11_digest 80 = .ok (.iconst 0, 1) := by decide +kernel
theorem dX11_digest_81 : decode cX11_digest 81 = .ok (.istore_n 1, 1) := by decide +kernel
theorem dX11_digest_82 : decode cX11_digest 82 = .ok (.iload_n 1, 1) := by decide +kernel
theorem dX11_digest_83 : decode cX11_digest 83 = .ok (.aload_n 0, 1) := by decide +kernel
theorem dX11_digest_84 : decode cX11_digest 84 = .ok (.getfield 81, 3) := by decide +kernel
theorem dX11_digest_87 : decode cX11_digest 87 = .ok (.if_icmp .ge 20, 3) := by decide +kernel
theorem dX11_digest_90 : decode cX11_digest 90 = .ok (.aload_n 0, 1) := by decide +kernel
theorem dX11_digest_91 : decode cX11_digest 91 = .ok (.aload_n 0, 1) := by decide +kernel
theorem dX11_digest_92 : decode cX11_digest 92 = .ok (.getfield 43, 3) := by decide +kernel
theorem dX11_digest_95 : decode cX11_digest 95 = .ok (.iload_n 1, 1) := by decide +kernel
theorem dX11_digest_96 : decode cX11_digest 96 = .ok (.baload, 1) := by decide +kernel
theorem dX11_digest_97 : decode cX11_digest 97 = .ok (.i2l, 1) := by decide +kernel
theorem dX11_digest_98 : decode cX11_digest 98 = .ok (.invokevirtual 290, 3) := by decide +kernel
theorem dX11_digest_101 : decode cX11_digest 101 = .ok (.iinc 1 1, 3) := by decide +kernel
theorem dX11_digest_104 : decode cX11_digest 104 = .ok (.goto (-22), 3) := by decide +kernel
theorem dX11_digest_107 : decode cX11_digest 107 = .ok (.iconst 0, 1) := by decide +kernel
theorem dX11_digest_108 : decode cX11_digest 108 = .ok (.istore_n 1, 1) := by decide +kernel
theorem dX11_digest_109 : decode cX11_digest 109 = .ok (.iload_n 1, 1) := by decide +kernel
theorem dX11_digest_110 : decode cX11_digest 110 = .ok (.bipush 9, 2) := by decide +kernel
theorem dX11_digest_112 : decode cX11_digest 112 = .ok (.if_icmp .ge 19, 3) := by decide +kernel
theorem dX11_digest_115 : decode cX11_digest 115 = .ok (.aload_n 0, 1) := by decide +kernel
theorem dX11_digest_116 : decode cX11_digest 116 = .ok (.aload_n 0, 1) := by decide +kernel
theorem dX11_digest_117 : decode cX11_digest 117 = .ok (.iload_n 1, 1) := by decide +kernel
theorem dX11_digest_118 : decode cX11_digest 118 = .ok (.invokevirtual 282, 3) := by decide +kernel
theorem dX11_digest_121 : decode cX11_digest 121 = .ok (.i2l, 1) := by decide +kernel
theorem dX11_digest_122 : decode cX11_digest 122 = .ok (.invokevirtual 290, 3) := by decide +kernel
theorem dX11_digest_125 : decode cX11_digest 125 = .ok (.iinc 1 1, 3) := by decide +kernel
theorem dX11_digest_128 : decode cX11_digest 128 = .ok (.goto (-19), 3) := by decide +kernel
theorem dX11_digest_131 : decode cX11_digest 131 = .ok (.aload_n 0, 1) := by decide +kernel
theorem dX11_digest_132 : decode cX11_digest 132 = .ok (.getfield 287, 3) := by decide +kernel
theorem dX11_digest_135 : decode cX11_digest 135 = .ok (.lreturn, 1) := by decide +kernel
