theorem dX10_init_0 : decode cX10_init 0 = .ok (.aload_n 0, 1) := by decide +kernel
theorem dX10_init_1 : decode cX10_init 1 = .ok (.invokespecial 3, 3) := by decide +kernel
theorem dX10_init_4 : decode cX10_init 4 = .ok (.aload_n 0, 1) := by decide +kernel
theorem dX10_init_5 : decode cX10_init 5 = .ok (.new 9, 3) := by decide +kernel
theorem dX10_init_8 : decode cX10_init 8 = .ok (.dup, 1) := by decide +kernel
theorem dX10_init_9 : decode cX10_init 9 = .ok (.invokespecial 11, 3) := by decide +kernel
theorem dX10_init_12 : decode cX10_init 12 = .ok (.putfield 12, 3) := by decide +kernel
theorem dX10_init_15 : decode cX10_init 15 = .ok (.aload_n 0, 1) := by decide +kernel
theorem dX10_init_16 : decode cX10_init 16 = .ok (.new 16, 3) := by decide +kernel
theorem dX10_init_19 : decode cX10_init 19 = .ok (.dup, 1) := by decide +kernel
theorem dX10_init_20 : decode cX10_init 20 = .ok (.invokespecial 18, 3) := by decide +kernel
theorem dX10_init_23 : decode cX10_init 23 = .ok (.putfield 19, 3) := by decide +kernel
theorem dX10_init_26 : decode cX10_init 26 = .ok (.aload_n 0, 1) := by decide +kernel
theorem dX10_init_27 : decode cX10_init 27 = .ok (.iconst 3, 1) := by decide +kernel
theorem dX10_init_28 : decode cX10_init 28 = .ok (.anewarray 23, 3) := by decide +kernel
theorem dX10_init_31 : decode cX10_init 31 = .ok (.putfield 25, 3) := by decide +kernel
theorem dX10_init_34 : decode cX10_init 34 = .ok (.aload_n 0, 1) := by decide +kernel
theorem dX10_init_35 : decode cX10_init 35 = .ok (.new 29, 3) := by decide +kernel
theorem dX10_init_38 : decode cX10_init 38 = .ok (.dup, 1) := by decide +kernel
theorem dX10_init_39 : decode cX10_init 39 = .ok (.invokespecial 31, 3) := by decide +kernel
theorem dX10_init_42 : decode cX10_init 42 = .ok (.putfield 32, 3) := by decide +kernel
theorem dX10_init_45 : decode cX10_init 45 = .ok (.aload_n 0, 1) := by decide +kernel
theorem dX10_init_46 : decode cX10_init 46 = .ok (.new 29, 3) := by decide +kernel
theorem dX10_init_49 : decode cX10_init 49 = .ok (.dup, 1) := by decide +kernel
theorem dX10_init_50 : decode cX10_init 50 = .ok (.invokespecial 31, 3) := by decide +kernel
theorem dX10_init_53 : decode cX10_init 53 = .ok (.putfield 36, 3) := by decide +kernel
theorem dX10_init_56 : decode cX10_init 56 = .ok (.aload_n 0, 1) := by decide +kernel
theorem dX10_init_57 : decode cX10_init 57 = .ok (.new 29, 3) := by decide +kernel
theorem dX10_init_60 : decode cX10_init 60 = .ok (.dup, 1) := by decide +kernel
theorem dX10_init_61 : decode cX10_init 61 = .ok (.invokespecial 31, 3) := by decide +kernel
theorem dX10_init_64 : decode cX10_init 64 = .ok (.putfield 39, 3) := by decide +kernel
theorem dX10_init_67 : decode cX10_init 67 = .ok (.aload_n 0, 1) := by decide +kernel
theorem dX10_init_68 : decode cX10_init 68 = .ok (.new 42, 3) := by decide +kernel
theorem dX10_init_71 : decode cX10_init 71 = .ok (.dup, 1) := by decide +kernel
theorem dX10_init_72 : decode cX10_init 72 = .ok (.invokespecial 44, 3) := by decide +kernel
theorem dX10_init_75 : decode cX10_init 75 = .ok (.putfield 45, 3) := by decide +kernel
theorem dX10_init_78 : decode cX10_init 78 = .ok (.aload_n 0, 1) := by decide +kernel
theorem dX10_init_79 : decode cX10_init 79 = .ok (.new 49, 3) := by decide +kernel
theorem dX10_init_82 : decode cX10_init 82 = .ok (.dup, 1) := by decide +kernel
theorem dX10_init_83 : decode cX10_init 83 = .ok (.invokespecial 51, 3) := by decide +kernel
theorem dX10_init_86 : decode cX10_init 86 = .ok (.putfield 52, 3) := by decide +kernel
theorem dX10_init_89 : decode cX10_init 89 = .ok (.aload_n 0, 1) := by decide +kernel
theorem dX10_init_90 : decode cX10_init 90 = .ok (.iconst 0, 1) := by decide +kernel
theorem dX10_init_91 : decode cX10_init 91 = .ok (.putfield 56, 3) := by decide +kernel
theorem dX10_init_94 : decode cX10_init 94 = .ok (.aload_n 0, 1) := by decide +kernel
theorem dX10_init_95 : decode cX10_init 95 = .ok (.iconst 0, 1) := by decide +kernel
theorem dX10_init_96 : decode cX10_init 96 = .ok (.putfield 60, 3) := by decide +kernel
theorem dX10_init_99 : decode cX10_init 99 = .ok (.aload_n 0, 1) := by decide +kernel
theorem dX10_init_100 : decode cX10_init 100 = .ok (.iconst 0, 1) := by decide +kernel
theorem dX10_init_101 : decode cX10_init 101 = .ok (.putfield 64, 3) := by decide +kernel
theorem dX10_init_104 : decode cX10_init 104 = .ok (.return_, 1) := by decide +kernel
theorem dX10_letter_0 : decode cX10_letter 0 = .ok (.iload_n 1, 1) := by decide +kernel
theorem dX10_letter_1 : decode cX10_letter 1 = .ok (.bipush 32, 2) := by decide +kernel
theorem dX10_letter_3 : decode cX10_letter 3 = .ok (.if_icmp .lt 9, 3) := by decide +kernel
theorem dX10_letter_6 : decode cX10_letter 6 = .ok (.iload_n 1, 1) := by decide +kernel
theorem dX10_letter_7 : decode cX10_letter 7 = .ok (.bipush 126, 2) := by decide +kernel
theorem dX10_letter_9 : decode cX10_letter 9 = .ok (.if_icmp .le 6, 3) := by decide +kernel
theorem dX10_letter_12 : decode cX10_letter 12 = .ok (.bipush (-102), 2) := by decide +kernel
theorem dX10_letter_14 : decode cX10_letter 14 = .ok (.ireturn, 1) := by decide +kernel
theorem dX10_letter_15 : decode cX10_letter 15 = .ok (.aload_n 0, 1) := by decide +kernel
theorem dX10_letter_16 : decode cX10_letter 16 = .ok (.getfield 12, 3) := by decide +kernel
theorem dX10_letter_19 : decode cX10_letter 19 = .ok (.getfield 67, 3) := by decide +kernel
theorem dX10_letter_22 : decode cX10_letter 22 = .ok (.bipush 18, 2) := by decide +kernel
theorem dX10_letter_24 : decode cX10_letter 24 = .ok (.if_icmp .lt 6, 3) := by decide +kernel
theorem dX10_letter_27 : decode cX10_letter 27 = .ok (.bipush (-104), 2) := by decide +kernel
theorem dX10_letter_29 : decode cX10_letter 29 = .ok (.ireturn, 1) := by decide +kernel
theorem dX10_letter_30 : decode cX10_letter 30 = .ok (.aload_n 0, 1) := by decide +kernel
theorem dX10_letter_31 : decode cX10_letter 31 = .ok (.getfield 12, 3) := by decide +kernel
theorem dX10_letter_34 : decode cX10_letter 34 = .ok (.iload_n 1, 1) := by decide +kernel
theorem dX10_letter_35 : decode cX10_letter 35 = .ok (.invokevirtual 70, 3) := by decide +kernel
theorem dX10_letter_38 : decode cX10_letter 38 = .ok (.aload_n 0, 1) := by decide +kernel
theorem dX10_letter_39 : decode cX10_letter 39 = .ok (.getfield 12, 3) := by decide +kernel
theorem dX10_letter_42 : decode cX10_letter 42 = .ok (.getfield 67, 3) := by decide +kernel
theorem dX10_letter_45 : decode cX10_letter 45 = .ok (.ireturn, 1) := by decide +kernel
theorem dX10_blank_0 : decode cX10_blank 0 = .ok (.aload_n 0, 1) := by decide +kernel
theorem dX10_blank_1 : decode cX10_blank 1 = .ok (.getfield 12, 3) := by decide +kernel
theorem dX10_blank_4 : decode cX10_blank 4 = .ok (.getfield 67, 3) := by decide +kernel
theorem dX10_blank_7 : decode cX10_blank 7 = .ok (.istore_n 1, 1) := by decide +kernel
theorem dX10_blank_8 : decode cX10_blank 8 = .ok (.aload_n 0, 1) := by decide +kernel
theorem dX10_blank_9 : decode cX10_blank 9 = .ok (.getfield 12, 3) := by decide +kernel
theorem dX10_blank_12 : decode cX10_blank 12 = .ok (.iconst 0, 1) := by decide +kernel
theorem dX10_blank_13 : decode cX10_blank 13 = .ok (.putfield 67, 3) := by decide +kernel
theorem dX10_blank_16 : decode cX10_blank 16 = .ok (.iload_n 1, 1) := by decide +kernel
theorem dX10_blank_17 : decode cX10_blank 17 = .ok (.ireturn, 1) := by decide +kernel
theorem dX10_fault_0 : decode cX10_fault 0 = .ok (.aload_n 0, 1) := by decide +kernel
theorem dX10_fault_1 : decode cX10_fault 1 = .ok (.getfield 12, 3) := by decide +kernel
theorem dX10_fault_4 : decode cX10_fault 4 = .ok (.invokevirtual 74, 3) := by decide +kernel
theorem dX10_fault_7 : decode cX10_fault 7 = .ok (.ireturn, 1) := by decide +kernel
theorem dX10_school_0 : decode cX10_school 0 = .ok (.aload_n 0, 1) := by decide +kernel
theorem dX10_school_1 : decode cX10_school 1 = .ok (.getfield 12, 3) := by decide +kernel
theorem dX10_school_4 : decode cX10_school 4 = .ok (.invokevirtual 78, 3) := by decide +kernel
theorem dX10_school_7 : decode cX10_school 7 = .ok (.ifCond .ne 6, 3) := by decide +kernel
theorem dX10_school_10 : decode cX10_school 10 = .ok (.bipush (-103), 2) := by decide +kernel
theorem dX10_school_12 : decode cX10_school 12 = .ok (.ireturn, 1) := by decide +kernel
theorem dX10_school_13 : decode cX10_school 13 = .ok (.aload_n 0, 1) := by decide +kernel
theorem dX10_school_14 : decode cX10_school 14 = .ok (.getfield 19, 3) := by decide +kernel
theorem dX10_school_17 : decode cX10_school 17 = .ok (.aload_n 0, 1) := by decide +kernel
theorem dX10_school_18 : decode cX10_school 18 = .ok (.getfield 12, 3) := by decide +kernel
theorem dX10_school_21 : decode cX10_school 21 = .ok (.invokevirtual 82, 3) := by decide +kernel
theorem dX10_school_24 : decode cX10_school 24 = .ok (.aload_n 0, 1) := by decide +kernel
theorem dX10_school_25 : decode cX10_school 25 = .ok (.getfield 12, 3) := by decide +kernel
theorem dX10_school_28 : decode cX10_school 28 = .ok (.iconst 0, 1) := by decide +kernel
theorem dX10_school_29 : decode cX10_school 29 = .ok (.putfield 67, 3) := by decide +kernel
theorem dX10_school_32 : decode cX10_school 32 = .ok (.aload_n 0, 1) := by decide +kernel
theorem dX10_school_33 : decode cX10_school 33 = .ok (.getfield 32, 3) := by decide +kernel
theorem dX10_school_36 : decode cX10_school 36 = .ok (.invokevirtual 86, 3) := by decide +kernel
theorem dX10_school_39 : decode cX10_school 39 = .ok (.aload_n 0, 1) := by decide +kernel
theorem dX10_school_40 : decode cX10_school 40 = .ok (.iconst 0, 1) := by decide +kernel
theorem dX10_school_41 : decode cX10_school 41 = .ok (.putfield 56, 3) := by decide +kernel
theorem dX10_school_44 : decode cX10_school 44 = .ok (.aload_n 0, 1) := by decide +kernel
theorem dX10_school_45 : decode cX10_school 45 = .ok (.dup, 1) := by decide +kernel
theorem dX10_school_46 : decode cX10_school 46 = .ok (.getfield 60, 3) := by decide +kernel
theorem dX10_school_49 : decode cX10_school 49 = .ok (.iconst 1, 1) := by decide +kernel
theorem dX10_school_50 : decode cX10_school 50 = .ok (.iadd, 1) := by decide +kernel
theorem dX10_school_51 : decode cX10_school 51 = .ok (.putfield 60, 3) := by decide +kernel
theorem dX10_school_54 : decode cX10_school 54 = .ok (.aload_n 0, 1) := by decide +kernel
theorem dX10_school_55 : decode cX10_school 55 = .ok (.getfield 19, 3) := by decide +kernel
theorem dX10_school_58 : decode cX10_school 58 = .ok (.getfield 89, 3) := by decide +kernel
theorem dX10_school_61 : decode cX10_school 61 = .ok (.ireturn, 1) := by decide +kernel
theorem dX10_lesson_0 : decode cX10_lesson 0 = .ok (.aload_n 0, 1) := by decide +kernel
theorem dX10_lesson_1 : decode cX10_lesson 1 = .ok (.getfield 19, 3) := by decide +kernel
theorem dX10_lesson_4 : decode cX10_lesson 4 = .ok (.iload_n 1, 1) := by decide +kernel
theorem dX10_lesson_5 : decode cX10_lesson 5 = .ok (.invokevirtual 92, 3) := by decide +kernel
theorem dX10_lesson_8 : decode cX10_lesson 8 = .ok (.ifCond .ne 6, 3) := by decide +kernel
theorem dX10_lesson_11 : decode cX10_lesson 11 = .ok (.bipush (-101), 2) := by decide +kernel
theorem dX10_lesson_13 : decode cX10_lesson 13 = .ok (.ireturn, 1) := by decide +kernel
theorem dX10_lesson_14 : decode cX10_lesson 14 = .ok (.iload_n 2, 1) := by decide +kernel
theorem dX10_lesson_15 : decode cX10_lesson 15 = .ok (.tableswitch 52 0 2 #[25, 34, 43], 25) := by decide +kernel
theorem dX10_lesson_40 : decode cX10_lesson 40 = .ok (.aload_n 0, 1) := by decide +kernel
theorem dX10_lesson_41 : decode cX10_lesson 41 = .ok (.getfield 19, 3) := by decide +kernel
theorem dX10_lesson_44 : decode cX10_lesson 44 = .ok (.iload_n 1, 1) := by decide +kernel
theorem dX10_lesson_45 : decode cX10_lesson 45 = .ok (.invokevirtual 96, 3) := by decide +kernel
theorem dX10_lesson_48 : decode cX10_lesson 48 = .ok (.ireturn, 1) := by decide +kernel
theorem dX10_lesson_49 : decode cX10_lesson 49 = .ok (.aload_n 0, 1) := by decide +kernel
theorem dX10_lesson_50 : decode cX10_lesson 50 = .ok (.getfield 19, 3) := by decide +kernel
theorem dX10_lesson_53 : decode cX10_lesson 53 = .ok (.iload_n 1, 1) := by decide +kernel
theorem dX10_lesson_54 : decode cX10_lesson 54 = .ok (.invokevirtual 100, 3) := by decide +kernel
theorem dX10_lesson_57 : decode cX10_lesson 57 = .ok (.ireturn, 1) := by decide +kernel
theorem dX10_lesson_58 : decode cX10_lesson 58 = .ok (.aload_n 0, 1) := by decide +kernel
theorem dX10_lesson_59 : decode cX10_lesson 59 = .ok (.getfield 32, 3) := by decide +kernel
theorem dX10_lesson_62 : decode cX10_lesson 62 = .ok (.iload_n 1, 1) := by decide +kernel
theorem dX10_lesson_63 : decode cX10_lesson 63 = .ok (.invokevirtual 103, 3) := by decide +kernel
theorem dX10_lesson_66 : decode cX10_lesson 66 = .ok (.ireturn, 1) := by decide +kernel
theorem dX10_lesson_67 : decode cX10_lesson 67 = .ok (.bipush (-102), 2) := by decide +kernel
theorem dX10_lesson_69 : decode cX10_lesson 69 = .ok (.ireturn, 1) := by decide +kernel
theorem dX10_stripes_0 : decode cX10_stripes 0 = .ok (.aload_n 0, 1) := by decide +kernel
theorem dX10_stripes_1 : decode cX10_stripes 1 = .ok (.getfield 19, 3) := by decide +kernel
theorem dX10_stripes_4 : decode cX10_stripes 4 = .ok (.invokevirtual 106, 3) := by decide +kernel
theorem dX10_stripes_7 : decode cX10_stripes 7 = .ok (.ifCond .eq 21, 3) := by decide +kernel
theorem dX10_stripes_10 : decode cX10_stripes 10 = .ok (.iload_n 1, 1) := by decide +kernel
theorem dX10_stripes_11 : decode cX10_stripes 11 = .ok (.invokestatic 109, 3) := by decide +kernel
theorem dX10_stripes_14 : decode cX10_stripes 14 = .ok (.ifCond .eq 14, 3) := by decide +kernel
theorem dX10_stripes_17 : decode cX10_stripes 17 = .ok (.aload_n 0, 1) := by decide +kernel
theorem dX10_stripes_18 : decode cX10_stripes 18 = .ok (.getfield 32, 3) := by decide +kernel
theorem dX10_stripes_21 : decode cX10_stripes 21 = .ok (.iload_n 1, 1) := by decide +kernel
theorem dX10_stripes_22 : decode cX10_stripes 22 = .ok (.invokevirtual 112, 3) := by decide +kernel
theorem dX10_stripes_25 : decode cX10_stripes 25 = .ok (.goto 5, 3) := by decide +kernel
theorem dX10_stripes_28 : decode cX10_stripes 28 = .ok (.bipush (-101), 2) := by decide +kernel
theorem dX10_stripes_30 : decode cX10_stripes 30 = .ok (.ireturn, 1) := by decide +kernel
theorem dX10_prince_0 : decode cX10_prince 0 = .ok (.iload_n 1, 1) := by decide +kernel
theorem dX10_prince_1 : decode cX10_prince 1 = .ok (.invokestatic 115, 3) := by decide +kernel
theorem dX10_prince_4 : decode cX10_prince 4 = .ok (.ifCond .eq 13, 3) := by decide +kernel
theorem dX10_prince_7 : decode cX10_prince 7 = .ok (.iload_n 2, 1) := by decide +kernel
theorem dX10_prince_8 : decode cX10_prince 8 = .ok (.ifCond .lt 9, 3) := by decide +kernel
theorem dX10_prince_11 : decode cX10_prince 11 = .ok (.iload_n 2, 1) := by decide +kernel
theorem dX10_prince_12 : decode cX10_prince 12 = .ok (.bipush 9, 2) := by decide +kernel
theorem dX10_prince_14 : decode cX10_prince 14 = .ok (.if_icmp .le 6, 3) := by decide +kernel
theorem dX10_prince_17 : decode cX10_prince 17 = .ok (.bipush (-102), 2) := by decide +kernel
theorem dX10_prince_19 : decode cX10_prince 19 = .ok (.ireturn, 1) := by decide +kernel
theorem dX10_prince_20 : decode cX10_prince 20 = .ok (.aload_n 0, 1) := by decide +kernel
theorem dX10_prince_21 : decode cX10_prince 21 = .ok (.getfield 19, 3) := by decide +kernel
theorem dX10_prince_24 : decode cX10_prince 24 = .ok (.invokevirtual 106, 3) := by decide +kernel
theorem dX10_prince_27 : decode cX10_prince 27 = .ok (.ifCond .ne 6, 3) := by decide +kernel
theorem dX10_prince_30 : decode cX10_prince 30 = .ok (.bipush (-103), 2) := by decide +kernel
theorem dX10_prince_32 : decode cX10_prince 32 = .ok (.ireturn, 1) := by decide +kernel
theorem dX10_prince_33 : decode cX10_prince 33 = .ok (.aload_n 0, 1) := by decide +kernel
theorem dX10_prince_34 : decode cX10_prince 34 = .ok (.getfield 32, 3) := by decide +kernel
theorem dX10_prince_37 : decode cX10_prince 37 = .ok (.getfield 118, 3) := by decide +kernel
theorem dX10_prince_40 : decode cX10_prince 40 = .ok (.istore_n 3, 1) := by decide +kernel
theorem dX10_prince_41 : decode cX10_prince 41 = .ok (.iload_n 3, 1) := by decide +kernel
theorem dX10_prince_42 : decode cX10_prince 42 = .ok (.ifCond .lt 12, 3) := by decide +kernel
theorem dX10_prince_45 : decode cX10_prince 45 = .ok (.iload_n 3, 1) := by decide +kernel
theorem dX10_prince_46 : decode cX10_prince 46 = .ok (.aload_n 0, 1) := by decide +kernel
theorem dX10_prince_47 : decode cX10_prince 47 = .ok (.getfield 25, 3) := by decide +kernel
theorem dX10_prince_50 : decode cX10_prince 50 = .ok (.arraylength, 1) := by decide +kernel
theorem dX10_prince_51 : decode cX10_prince 51 = .ok (.if_icmp .lt 6, 3) := by decide +kernel
theorem dX10_prince_54 : decode cX10_prince 54 = .ok (.bipush (-104), 2) := by decide +kernel
theorem dX10_prince_56 : decode cX10_prince 56 = .ok (.ireturn, 1) := by decide +kernel
theorem dX10_prince_57 : decode cX10_prince 57 = .ok (.aload_n 0, 1) := by decide +kernel
theorem dX10_prince_58 : decode cX10_prince 58 = .ok (.getfield 25, 3) := by decide +kernel
theorem dX10_prince_61 : decode cX10_prince 61 = .ok (.iload_n 3, 1) := by decide +kernel
theorem dX10_prince_62 : decode cX10_prince 62 = .ok (.iload_n 1, 1) := by decide +kernel
theorem dX10_prince_63 : decode cX10_prince 63 = .ok (.iload_n 2, 1) := by decide +kernel
theorem dX10_prince_64 : decode cX10_prince 64 = .ok (.invokestatic 120, 3) := by decide +kernel
theorem dX10_prince_67 : decode cX10_prince 67 = .ok (.aastore, 1) := by decide +kernel
theorem dX10_prince_68 : decode cX10_prince 68 = .ok (.aload_n 0, 1) := by decide +kernel
theorem dX10_prince_69 : decode cX10_prince 69 = .ok (.getfield 32, 3) := by decide +kernel
theorem dX10_prince_72 : decode cX10_prince 72 = .ok (.invokevirtual 124, 3) := by decide +kernel
theorem dX10_prince_75 : decode cX10_prince 75 = .ok (.iload_n 3, 1) := by decide +kernel
theorem dX10_prince_76 : decode cX10_prince 76 = .ok (.ireturn, 1) := by decide +kernel
theorem dX10_about_0 : decode cX10_about 0 = .ok (.aload_n 0, 1) := by decide +kernel
theorem dX10_about_1 : decode cX10_about 1 = .ok (.iload_n 1, 1) := by decide +kernel
theorem dX10_about_2 : decode cX10_about 2 = .ok (.invokevirtual 127, 3) := by decide +kernel
theorem dX10_about_5 : decode cX10_about 5 = .ok (.astore_n 3, 1) := by decide +kernel
theorem dX10_about_6 : decode cX10_about 6 = .ok (.aload_n 3, 1) := by decide +kernel
theorem dX10_about_7 : decode cX10_about 7 = .ok (.ifnonnull 6, 3) := by decide +kernel
theorem dX10_about_10 : decode cX10_about 10 = .ok (.bipush (-101), 2) := by decide +kernel
theorem dX10_about_12 : decode cX10_about 12 = .ok (.ireturn, 1) := by decide +kernel
theorem dX10_about_13 : decode cX10_about 13 = .ok (.iload_n 2, 1) := by decide +kernel
theorem dX10_about_14 : decode cX10_about 14 = .ok (.tableswitch 75 0 4 #[34, 39, 44, 53, 66], 34) := by decide +kernel
theorem dX10_about_48 : decode cX10_about 48 = .ok (.aload_n 3, 1) := by decide +kernel
theorem dX10_about_49 : decode cX10_about 49 = .ok (.invokevirtual 131, 3) := by decide +kernel
theorem dX10_about_52 : decode cX10_about 52 = .ok (.ireturn, 1) := by decide +kernel
theorem dX10_about_53 : decode cX10_about 53 = .ok (.aload_n 3, 1) := by decide +kernel
theorem dX10_about_54 : decode cX10_about 54 = .ok (.getfield 134, 3) := by decide +kernel
theorem dX10_about_57 : decode cX10_about 57 = .ok (.ireturn, 1) := by decide +kernel
theorem dX10_about_58 : decode cX10_about 58 = .ok (.aload_n 0, 1) := by decide +kernel
theorem dX10_about_59 : decode cX10_about 59 = .ok (.getfield 32, 3) := by decide +kernel
theorem dX10_about_62 : decode cX10_about 62 = .ok (.iload_n 1, 1) := by decide +kernel
theorem dX10_about_63 : decode cX10_about 63 = .ok (.invokevirtual 137, 3) := by decide +kernel
theorem dX10_about_66 : decode cX10_about 66 = .ok (.ireturn, 1) := by decide +kernel
theorem dX10_about_67 : decode cX10_about 67 = .ok (.aload_n 3, 1) := by decide +kernel
theorem dX10_about_68 : decode cX10_about 68 = .ok (.aload_n 0, 1) := by decide +kernel
theorem dX10_about_69 : decode cX10_about 69 = .ok (.getfield 32, 3) := by decide +kernel
theorem dX10_about_72 : decode cX10_about 72 = .ok (.iload_n 1, 1) := by decide +kernel
theorem dX10_about_73 : decode cX10_about 73 = .ok (.invokevirtual 140, 3) := by decide +kernel
theorem dX10_about_76 : decode cX10_about 76 = .ok (.invokevirtual 143, 3) := by decide +kernel
theorem dX10_about_79 : decode cX10_about 79 = .ok (.ireturn, 1) := by decide +kernel
theorem dX10_about_80 : decode cX10_about 80 = .ok (.aload_n 0, 1) := by decide +kernel
theorem dX10_about_81 : decode cX10_about 81 = .ok (.getfield 32, 3) := by decide +kernel
theorem dX10_about_84 : decode cX10_about 84 = .ok (.iload_n 1, 1) := by decide +kernel
theorem dX10_about_85 : decode cX10_about 85 = .ok (.invokevirtual 146, 3) := by decide +kernel
theorem dX10_about_88 : decode cX10_about 88 = .ok (.ireturn, 1) := by decide +kernel
theorem dX10_about_89 : decode cX10_about 89 = .ok (.iload_n 2, 1) := by decide +kernel
theorem dX10_about_90 : decode cX10_about 90 = .ok (.bipush 10, 2) := by decide +kernel
theorem dX10_about_92 : decode cX10_about 92 = .ok (.isub, 1) := by decide +kernel
theorem dX10_about_93 : decode cX10_about 93 = .ok (.invokestatic 109, 3) := by decide +kernel
theorem dX10_about_96 : decode cX10_about 96 = .ok (.ifCond .eq 18, 3) := by decide +kernel
theorem dX10_about_99 : decode cX10_about 99 = .ok (.aload_n 0, 1) := by decide +kernel
theorem dX10_about_100 : decode cX10_about 100 = .ok (.getfield 32, 3) := by decide +kernel
theorem dX10_about_103 : decode cX10_about 103 = .ok (.iload_n 1, 1) := by decide +kernel
theorem dX10_about_104 : decode cX10_about 104 = .ok (.iload_n 2, 1) := by decide +kernel
theorem dX10_about_105 : decode cX10_about 105 = .ok (.bipush 10, 2) := by decide +kernel
theorem dX10_about_107 : decode cX10_about 107 = .ok (.isub, 1) := by decide +kernel
theorem dX10_about_108 : decode cX10_about 108 = .ok (.invokevirtual 149, 3) := by decide +kernel
theorem dX10_about_111 : decode cX10_about 111 = .ok (.goto 5, 3) := by decide +kernel
theorem dX10_about_114 : decode cX10_about 114 = .ok (.bipush (-102), 2) := by decide +kernel
theorem dX10_about_116 : decode cX10_about 116 = .ok (.ireturn, 1) := by decide +kernel
theorem dX10_as_0 : decode cX10_as 0 = .ok (.aload_n 0, 1) := by decide +kernel
theorem dX10_as_1 : decode cX10_as 1 = .ok (.iload_n 1, 1) := by decide +kernel
theorem dX10_as_2 : decode cX10_as 2 = .ok (.invokevirtual 127, 3) := by decide +kernel
theorem dX10_as_5 : decode cX10_as 5 = .ok (.astore_n 3, 1) := by decide +kernel
theorem dX10_as_6 : decode cX10_as 6 = .ok (.aload_n 3, 1) := by decide +kernel
theorem dX10_as_7 : decode cX10_as 7 = .ok (.ifnonnull 6, 3) := by decide +kernel
theorem dX10_as_10 : decode cX10_as 10 = .ok (.bipush (-101), 2) := by decide +kernel
theorem dX10_as_12 : decode cX10_as 12 = .ok (.ireturn, 1) := by decide +kernel
theorem dX10_as_13 : decode cX10_as 13 = .ok (.iload_n 2, 1) := by decide +kernel
theorem dX10_as_14 : decode cX10_as 14 = .ok (.invokestatic 115, 3) := by decide +kernel
theorem dX10_as_17 : decode cX10_as 17 = .ok (.ifCond .ne 6, 3) := by decide +kernel
theorem dX10_as_20 : decode cX10_as 20 = .ok (.bipush (-102), 2) := by decide +kernel
theorem dX10_as_22 : decode cX10_as 22 = .ok (.ireturn, 1) := by decide +kernel
theorem dX10_as_23 : decode cX10_as 23 = .ok (.aload_n 3, 1) := by decide +kernel
theorem dX10_as_24 : decode cX10_as 24 = .ok (.iload_n 2, 1) := by decide +kernel
theorem dX10_as_25 : decode cX10_as 25 = .ok (.invokevirtual 153, 3) := by decide +kernel
theorem dX10_as_28 : decode cX10_as 28 = .ok (.ifCond .eq 7, 3) := by decide +kernel
theorem dX10_as_31 : decode cX10_as 31 = .ok (.iload_n 1, 1) := by decide +kernel
theorem dX10_as_32 : decode cX10_as 32 = .ok (.goto 4, 3) := by decide +kernel
theorem dX10_as_35 : decode cX10_as 35 = .ok (.iconst (-1), 1) := by decide +kernel
theorem dX10_as_36 : decode cX10_as 36 = .ok (.ireturn, 1) := by decide +kernel
theorem dX10_give_0 : decode cX10_give 0 = .ok (.aload_n 0, 1) := by decide +kernel
theorem dX10_give_1 : decode cX10_give 1 = .ok (.iload_n 1, 1) := by decide +kernel
theorem dX10_give_2 : decode cX10_give 2 = .ok (.invokevirtual 127, 3) := by decide +kernel
theorem dX10_give_5 : decode cX10_give 5 = .ok (.ifnull 10, 3) := by decide +kernel
theorem dX10_give_8 : decode cX10_give 8 = .ok (.iload_n 2, 1) := by decide +kernel
theorem dX10_give_9 : decode cX10_give 9 = .ok (.invokestatic 109, 3) := by decide +kernel
theorem dX10_give_12 : decode cX10_give 12 = .ok (.ifCond .ne 6, 3) := by decide +kernel
theorem dX10_give_15 : decode cX10_give 15 = .ok (.bipush (-101), 2) := by decide +kernel
theorem dX10_give_17 : decode cX10_give 17 = .ok (.ireturn, 1) := by decide +kernel
theorem dX10_give_18 : decode cX10_give 18 = .ok (.aload_n 0, 1) := by decide +kernel
theorem dX10_give_19 : decode cX10_give 19 = .ok (.getfield 32, 3) := by decide +kernel
theorem dX10_give_22 : decode cX10_give 22 = .ok (.iload_n 1, 1) := by decide +kernel
theorem dX10_give_23 : decode cX10_give 23 = .ok (.invokevirtual 137, 3) := by decide +kernel
theorem dX10_give_26 : decode cX10_give 26 = .ok (.istore_n 3, 1) := by decide +kernel
theorem dX10_give_27 : decode cX10_give 27 = .ok (.aload_n 0, 1) := by decide +kernel
theorem dX10_give_28 : decode cX10_give 28 = .ok (.getfield 32, 3) := by decide +kernel
theorem dX10_give_31 : decode cX10_give 31 = .ok (.iload_n 1, 1) := by decide +kernel
theorem dX10_give_32 : decode cX10_give 32 = .ok (.iload_n 2, 1) := by decide +kernel
theorem dX10_give_33 : decode cX10_give 33 = .ok (.invokevirtual 156, 3) := by decide +kernel
theorem dX10_give_36 : decode cX10_give 36 = .ok (.iload_n 3, 1) := by decide +kernel
theorem dX10_give_37 : decode cX10_give 37 = .ok (.ireturn, 1) := by decide +kernel
theorem dX10_fond_0 : decode cX10_fond 0 = .ok (.aload_n 0, 1) := by decide +kernel
theorem dX10_fond_1 : decode cX10_fond 1 = .ok (.iload_n 1, 1) := by decide +kernel
theorem dX10_fond_2 : decode cX10_fond 2 = .ok (.invokevirtual 127, 3) := by decide +kernel
theorem dX10_fond_5 : decode cX10_fond 5 = .ok (.ifnull 10, 3) := by decide +kernel
theorem dX10_fond_8 : decode cX10_fond 8 = .ok (.iload_n 2, 1) := by decide +kernel
theorem dX10_fond_9 : decode cX10_fond 9 = .ok (.invokestatic 109, 3) := by decide +kernel
theorem dX10_fond_12 : decode cX10_fond 12 = .ok (.ifCond .ne 6, 3) := by decide +kernel
theorem dX10_fond_15 : decode cX10_fond 15 = .ok (.bipush (-101), 2) := by decide +kernel
theorem dX10_fond_17 : decode cX10_fond 17 = .ok (.ireturn, 1) := by decide +kernel
theorem dX10_fond_18 : decode cX10_fond 18 = .ok (.iload_n 3, 1) := by decide +kernel
theorem dX10_fond_19 : decode cX10_fond 19 = .ok (.ifCond .lt 9, 3) := by decide +kernel
theorem dX10_fond_22 : decode cX10_fond 22 = .ok (.iload_n 3, 1) := by decide +kernel
theorem dX10_fond_23 : decode cX10_fond 23 = .ok (.bipush 9, 2) := by decide +kernel
theorem dX10_fond_25 : decode cX10_fond 25 = .ok (.if_icmp .le 6, 3) := by decide +kernel
theorem dX10_fond_28 : decode cX10_fond 28 = .ok (.bipush (-102), 2) := by decide +kernel
theorem dX10_fond_30 : decode cX10_fond 30 = .ok (.ireturn, 1) := by decide +kernel
theorem dX10_fond_31 : decode cX10_fond 31 = .ok (.aload_n 0, 1) := by decide +kernel
theorem dX10_fond_32 : decode cX10_fond 32 = .ok (.getfield 32, 3) := by decide +kernel
theorem dX10_fond_35 : decode cX10_fond 35 = .ok (.iload_n 1, 1) := by decide +kernel
theorem dX10_fond_36 : decode cX10_fond 36 = .ok (.iload_n 2, 1) := by decide +kernel
theorem dX10_fond_37 : decode cX10_fond 37 = .ok (.invokevirtual 149, 3) := by decide +kernel
theorem dX10_fond_40 : decode cX10_fond 40 = .ok (.istore 4, 2) := by decide +kernel
theorem dX10_fond_42 : decode cX10_fond 42 = .ok (.aload_n 0, 1) := by decide +kernel
theorem dX10_fond_43 : decode cX10_fond 43 = .ok (.getfield 32, 3) := by decide +kernel
theorem dX10_fond_46 : decode cX10_fond 46 = .ok (.iload_n 1, 1) := by decide +kernel
theorem dX10_fond_47 : decode cX10_fond 47 = .ok (.iload_n 2, 1) := by decide +kernel
theorem dX10_fond_48 : decode cX10_fond 48 = .ok (.iload_n 3, 1) := by decide +kernel
theorem dX10_fond_49 : decode cX10_fond 49 = .ok (.invokevirtual 160, 3) := by decide +kernel
theorem dX10_fond_52 : decode cX10_fond 52 = .ok (.iload 4, 2) := by decide +kernel
theorem dX10_fond_54 : decode cX10_fond 54 = .ok (.ireturn, 1) := by decide +kernel
theorem dX10_tenths_0 : decode cX10_tenths 0 = .ok (.aload_n 0, 1) := by decide +kernel
theorem dX10_tenths_1 : decode cX10_tenths 1 = .ok (.iload_n 1, 1) := by decide +kernel
theorem dX10_tenths_2 : decode cX10_tenths 2 = .ok (.invokevirtual 127, 3) := by decide +kernel
theorem dX10_tenths_5 : decode cX10_tenths 5 = .ok (.astore_n 3, 1) := by decide +kernel
theorem dX10_tenths_6 : decode cX10_tenths 6 = .ok (.aload_n 3, 1) := by decide +kernel
theorem dX10_tenths_7 : decode cX10_tenths 7 = .ok (.ifnull 14, 3) := by decide +kernel
theorem dX10_tenths_10 : decode cX10_tenths 10 = .ok (.aload_n 0, 1) := by decide +kernel
theorem dX10_tenths_11 : decode cX10_tenths 11 = .ok (.getfield 19, 3) := by decide +kernel
theorem dX10_tenths_14 : decode cX10_tenths 14 = .ok (.iload_n 2, 1) := by decide +kernel
theorem dX10_tenths_15 : decode cX10_tenths 15 = .ok (.invokevirtual 92, 3) := by decide +kernel
theorem dX10_tenths_18 : decode cX10_tenths 18 = .ok (.ifCond .ne 6, 3) := by decide +kernel
theorem dX10_tenths_21 : decode cX10_tenths 21 = .ok (.bipush (-101), 2) := by decide +kernel
theorem dX10_tenths_23 : decode cX10_tenths 23 = .ok (.ireturn, 1) := by decide +kernel
theorem dX10_tenths_24 : decode cX10_tenths 24 = .ok (.aload_n 0, 1) := by decide +kernel
theorem dX10_tenths_25 : decode cX10_tenths 25 = .ok (.getfield 19, 3) := by decide +kernel
theorem dX10_tenths_28 : decode cX10_tenths 28 = .ok (.aload_n 3, 1) := by decide +kernel
theorem dX10_tenths_29 : decode cX10_tenths 29 = .ok (.aload_n 0, 1) := by decide +kernel
theorem dX10_tenths_30 : decode cX10_tenths 30 = .ok (.getfield 32, 3) := by decide +kernel
theorem dX10_tenths_33 : decode cX10_tenths 33 = .ok (.iload_n 1, 1) := by decide +kernel
theorem dX10_tenths_34 : decode cX10_tenths 34 = .ok (.invokevirtual 140, 3) := by decide +kernel
theorem dX10_tenths_37 : decode cX10_tenths 37 = .ok (.iload_n 2, 1) := by decide +kernel
theorem dX10_tenths_38 : decode cX10_tenths 38 = .ok (.invokevirtual 164, 3) := by decide +kernel
theorem dX10_tenths_41 : decode cX10_tenths 41 = .ok (.ireturn, 1) := by decide +kernel
theorem dX10_teach_0 : decode cX10_teach 0 = .ok (.aload_n 0, 1) := by decide +kernel
theorem dX10_teach_1 : decode cX10_teach 1 = .ok (.iload_n 1, 1) := by decide +kernel
theorem dX10_teach_2 : decode cX10_teach 2 = .ok (.invokevirtual 127, 3) := by decide +kernel
theorem dX10_teach_5 : decode cX10_teach 5 = .ok (.astore 4, 2) := by decide +kernel
theorem dX10_teach_7 : decode cX10_teach 7 = .ok (.aload 4, 2) := by decide +kernel
theorem dX10_teach_9 : decode cX10_teach 9 = .ok (.ifnull 14, 3) := by decide +kernel
theorem dX10_teach_12 : decode cX10_teach 12 = .ok (.aload_n 0, 1) := by decide +kernel
theorem dX10_teach_13 : decode cX10_teach 13 = .ok (.getfield 19, 3) := by decide +kernel
theorem dX10_teach_16 : decode cX10_teach 16 = .ok (.iload_n 2, 1) := by decide +kernel
theorem dX10_teach_17 : decode cX10_teach 17 = .ok (.invokevirtual 92, 3) := by decide +kernel
theorem dX10_teach_20 : decode cX10_teach 20 = .ok (.ifCond .ne 6, 3) := by decide +kernel
theorem dX10_teach_23 : decode cX10_teach 23 = .ok (.bipush (-101), 2) := by decide +kernel
theorem dX10_teach_25 : decode cX10_teach 25 = .ok (.ireturn, 1) := by decide +kernel
theorem dX10_teach_26 : decode cX10_teach 26 = .ok (.aload_n 0, 1) := by decide +kernel
theorem dX10_teach_27 : decode cX10_teach 27 = .ok (.getfield 19, 3) := by decide +kernel
theorem dX10_teach_30 : decode cX10_teach 30 = .ok (.aload 4, 2) := by decide +kernel
theorem dX10_teach_32 : decode cX10_teach 32 = .ok (.aload_n 0, 1) := by decide +kernel
theorem dX10_teach_33 : decode cX10_teach 33 = .ok (.getfield 32, 3) := by decide +kernel
theorem dX10_teach_36 : decode cX10_teach 36 = .ok (.iload_n 1, 1) := by decide +kernel
theorem dX10_teach_37 : decode cX10_teach 37 = .ok (.invokevirtual 140, 3) := by decide +kernel
theorem dX10_teach_40 : decode cX10_teach 40 = .ok (.iload_n 2, 1) := by decide +kernel
theorem dX10_teach_41 : decode cX10_teach 41 = .ok (.invokevirtual 164, 3) := by decide +kernel
theorem dX10_teach_44 : decode cX10_teach 44 = .ok (.istore 5, 2) := by decide +kernel
theorem dX10_teach_46 : decode cX10_teach 46 = .ok (.aload_n 0, 1) := by decide +kernel
theorem dX10_teach_47 : decode cX10_teach 47 = .ok (.getfield 32, 3) := by decide +kernel
theorem dX10_teach_50 : decode cX10_teach 50 = .ok (.iload_n 1, 1) := by decide +kernel
theorem dX10_teach_51 : decode cX10_teach 51 = .ok (.invokevirtual 146, 3) := by decide +kernel
theorem dX10_teach_54 : decode cX10_teach 54 = .ok (.iload_n 2, 1) := by decide +kernel
theorem dX10_teach_55 : decode cX10_teach 55 = .ok (.invokestatic 168, 3) := by decide +kernel
theorem dX10_teach_58 : decode cX10_teach 58 = .ok (.ifCond .ne 12, 3) := by decide +kernel
theorem dX10_teach_61 : decode cX10_teach 61 = .ok (.iload 5, 2) := by decide +kernel
theorem dX10_teach_63 : decode cX10_teach 63 = .ok (.iload_n 3, 1) := by decide +kernel
theorem dX10_teach_64 : decode cX10_teach 64 = .ok (.invokestatic 172, 3) := by decide +kernel
theorem dX10_teach_67 : decode cX10_teach 67 = .ok (.ifCond .ne 6, 3) := by decide +kernel
theorem dX10_teach_70 : decode cX10_teach 70 = .ok (.bipush (-103), 2) := by decide +kernel
theorem dX10_teach_72 : decode cX10_teach 72 = .ok (.ireturn, 1) := by decide +kernel
theorem dX10_teach_73 : decode cX10_teach 73 = .ok (.aload_n 0, 1) := by decide +kernel
theorem dX10_teach_74 : decode cX10_teach 74 = .ok (.aload_n 0, 1) := by decide +kernel
theorem dX10_teach_75 : decode cX10_teach 75 = .ok (.getfield 32, 3) := by decide +kernel
theorem dX10_teach_78 : decode cX10_teach 78 = .ok (.iload_n 1, 1) := by decide +kernel
theorem dX10_teach_79 : decode cX10_teach 79 = .ok (.iload_n 2, 1) := by decide +kernel
theorem dX10_teach_80 : decode cX10_teach 80 = .ok (.iload_n 3, 1) := by decide +kernel
theorem dX10_teach_81 : decode cX10_teach 81 = .ok (.invokevirtual 176, 3) := by decide +kernel
theorem dX10_teach_84 : decode cX10_teach 84 = .ok (.aload_n 0, 1) := by decide +kernel
theorem dX10_teach_85 : decode cX10_teach 85 = .ok (.getfield 32, 3) := by decide +kernel
theorem dX10_teach_88 : decode cX10_teach 88 = .ok (.aload_n 0, 1) := by decide +kernel
theorem dX10_teach_89 : decode cX10_teach 89 = .ok (.getfield 32, 3) := by decide +kernel
theorem dX10_teach_92 : decode cX10_teach 92 = .ok (.iload_n 1, 1) := by decide +kernel
theorem dX10_teach_93 : decode cX10_teach 93 = .ok (.invokevirtual 137, 3) := by decide +kernel
theorem dX10_teach_96 : decode cX10_teach 96 = .ok (.invokevirtual 112, 3) := by decide +kernel
theorem dX10_teach_99 : decode cX10_teach 99 = .ok (.ireturn, 1) := by decide +kernel
theorem dX10_order_0 : decode cX10_order 0 = .ok (.aload_n 0, 1) := by decide +kernel
theorem dX10_order_1 : decode cX10_order 1 = .ok (.iload_n 1, 1) := by decide +kernel
theorem dX10_order_2 : decode cX10_order 2 = .ok (.invokevirtual 127, 3) := by decide +kernel
theorem dX10_order_5 : decode cX10_order 5 = .ok (.astore_n 3, 1) := by decide +kernel
theorem dX10_order_6 : decode cX10_order 6 = .ok (.aload_n 3, 1) := by decide +kernel
theorem dX10_order_7 : decode cX10_order 7 = .ok (.ifnonnull 7, 3) := by decide +kernel
theorem dX10_order_10 : decode cX10_order 10 = .ok (.ldc2_w 180, 3) := by decide +kernel
theorem dX10_order_13 : decode cX10_order 13 = .ok (.lreturn, 1) := by decide +kernel
theorem dX10_order_14 : decode cX10_order 14 = .ok (.iload_n 2, 1) := by decide +kernel
theorem dX10_order_15 : decode cX10_order 15 = .ok (.iconst 5, 1) := by decide +kernel
theorem dX10_order_16 : decode cX10_order 16 = .ok (.invokestatic 182, 3) := by decide +kernel
theorem dX10_order_19 : decode cX10_order 19 = .ok (.ifCond .ne 7, 3) := by decide +kernel
theorem dX10_order_22 : decode cX10_order 22 = .ok (.ldc2_w 185, 3) := by decide +kernel
theorem dX10_order_25 : decode cX10_order 25 = .ok (.lreturn, 1) := by decide +kernel
theorem dX10_order_26 : decode cX10_order 26 = .ok (.aload_n 0, 1) := by decide +kernel
theorem dX10_order_27 : decode cX10_order 27 = .ok (.getfield 64, 3) := by decide +kernel
theorem dX10_order_30 : decode cX10_order 30 = .ok (.bipush 20, 2) := by decide +kernel
theorem dX10_order_32 : decode cX10_order 32 = .ok (.if_icmp .lt 7, 3) := by decide +kernel
theorem dX10_order_35 : decode cX10_order 35 = .ok (.ldc2_w 187, 3) := by decide +kernel
theorem dX10_order_38 : decode cX10_order 38 = .ok (.lreturn, 1) := by decide +kernel
theorem dX10_order_39 : decode cX10_order 39 = .ok (.aload_n 0, 1) := by decide +kernel
theorem dX10_order_40 : decode cX10_order 40 = .ok (.dup, 1) := by decide +kernel
theorem dX10_order_41 : decode cX10_order 41 = .ok (.getfield 64, 3) := by decide +kernel
theorem dX10_order_44 : decode cX10_order 44 = .ok (.iconst 1, 1) := by decide +kernel
theorem dX10_order_45 : decode cX10_order 45 = .ok (.iadd, 1) := by decide +kernel
theorem dX10_order_46 : decode cX10_order 46 = .ok (.putfield 64, 3) := by decide +kernel
theorem dX10_order_49 : decode cX10_order 49 = .ok (.aload_n 0, 1) := by decide +kernel
theorem dX10_order_50 : decode cX10_order 50 = .ok (.getfield 32, 3) := by decide +kernel
theorem dX10_order_53 : decode cX10_order 53 = .ok (.iload_n 1, 1) := by decide +kernel
theorem dX10_order_54 : decode cX10_order 54 = .ok (.invokevirtual 137, 3) := by decide +kernel
theorem dX10_order_57 : decode cX10_order 57 = .ok (.istore 4, 2) := by decide +kernel
theorem dX10_order_59 : decode cX10_order 59 = .ok (.aload_n 0, 1) := by decide +kernel
theorem dX10_order_60 : decode cX10_order 60 = .ok (.getfield 45, 3) := by decide +kernel
theorem dX10_order_63 : decode cX10_order 63 = .ok (.aload_n 0, 1) := by decide +kernel
theorem dX10_order_64 : decode cX10_order 64 = .ok (.getfield 19, 3) := by decide +kernel
theorem dX10_order_67 : decode cX10_order 67 = .ok (.aload_n 3, 1) := by decide +kernel
theorem dX10_order_68 : decode cX10_order 68 = .ok (.aload_n 0, 1) := by decide +kernel
theorem dX10_order_69 : decode cX10_order 69 = .ok (.getfield 32, 3) := by decide +kernel
theorem dX10_order_72 : decode cX10_order 72 = .ok (.iload_n 1, 1) := by decide +kernel
theorem dX10_order_73 : decode cX10_order 73 = .ok (.invokevirtual 146, 3) := by decide +kernel
theorem dX10_order_76 : decode cX10_order 76 = .ok (.aload_n 0, 1) := by decide +kernel
theorem dX10_order_77 : decode cX10_order 77 = .ok (.getfield 32, 3) := by decide +kernel
theorem dX10_order_80 : decode cX10_order 80 = .ok (.iload_n 1, 1) := by decide +kernel
theorem dX10_order_81 : decode cX10_order 81 = .ok (.iload 4, 2) := by decide +kernel
theorem dX10_order_83 : decode cX10_order 83 = .ok (.invokevirtual 149, 3) := by decide +kernel
theorem dX10_order_86 : decode cX10_order 86 = .ok (.aload_n 0, 1) := by decide +kernel
theorem dX10_order_87 : decode cX10_order 87 = .ok (.getfield 32, 3) := by decide +kernel
theorem dX10_order_90 : decode cX10_order 90 = .ok (.iload 4, 2) := by decide +kernel
theorem dX10_order_92 : decode cX10_order 92 = .ok (.invokevirtual 112, 3) := by decide +kernel
theorem dX10_order_95 : decode cX10_order 95 = .ok (.invokevirtual 189, 3) := by decide +kernel
theorem dX10_order_98 : decode cX10_order 98 = .ok (.iload_n 2, 1) := by decide +kernel
theorem dX10_order_99 : decode cX10_order 99 = .ok (.bipush 10, 2) := by decide +kernel
theorem dX10_order_101 : decode cX10_order 101 = .ok (.if_icmp .lt 16, 3) := by decide +kernel
theorem dX10_order_104 : decode cX10_order 104 = .ok (.aload_n 0, 1) := by decide +kernel
theorem dX10_order_105 : decode cX10_order 105 = .ok (.getfield 45, 3) := by decide +kernel
theorem dX10_order_108 : decode cX10_order 108 = .ok (.iload_n 2, 1) := by decide +kernel
theorem dX10_order_109 : decode cX10_order 109 = .ok (.bipush 10, 2) := by decide +kernel
theorem dX10_order_111 : decode cX10_order 111 = .ok (.isub, 1) := by decide +kernel
theorem dX10_order_112 : decode cX10_order 112 = .ok (.invokevirtual 193, 3) := by decide +kernel
theorem dX10_order_115 : decode cX10_order 115 = .ok (.i2l, 1) := by decide +kernel
theorem dX10_order_116 : decode cX10_order 116 = .ok (.lreturn, 1) := by decide +kernel
theorem dX10_order_117 : decode cX10_order 117 = .ok (.aload_n 0, 1) := by decide +kernel
theorem dX10_order_118 : decode cX10_order 118 = .ok (.getfield 45, 3) := by decide +kernel
theorem dX10_order_121 : decode cX10_order 121 = .ok (.getfield 196, 3) := by decide +kernel
theorem dX10_order_124 : decode cX10_order 124 = .ok (.aload_n 0, 1) := by decide +kernel
theorem dX10_order_125 : decode cX10_order 125 = .ok (.getfield 45, 3) := by decide +kernel
theorem dX10_order_128 : decode cX10_order 128 = .ok (.getfield 200, 3) := by decide +kernel
theorem dX10_order_131 : decode cX10_order 131 = .ok (.iload_n 2, 1) := by decide +kernel
theorem dX10_order_132 : decode cX10_order 132 = .ok (.invokestatic 203, 3) := by decide +kernel
theorem dX10_order_135 : decode cX10_order 135 = .ok (.lreturn, 1) := by decide +kernel
theorem dX10_match_0 : decode cX10_match 0 = .ok (.aload_n 0, 1) := by decide +kernel
theorem dX10_match_1 : decode cX10_match 1 = .ok (.getfield 19, 3) := by decide +kernel
theorem dX10_match_4 : decode cX10_match 4 = .ok (.iload_n 1, 1) := by decide +kernel
theorem dX10_match_5 : decode cX10_match 5 = .ok (.invokevirtual 92, 3) := by decide +kernel
theorem dX10_match_8 : decode cX10_match 8 = .ok (.ifCond .ne 6, 3) := by decide +kernel
theorem dX10_match_11 : decode cX10_match 11 = .ok (.bipush (-101), 2) := by decide +kernel
theorem dX10_match_13 : decode cX10_match 13 = .ok (.ireturn, 1) := by decide +kernel
theorem dX10_match_14 : decode cX10_match 14 = .ok (.iload_n 2, 1) := by decide +kernel
theorem dX10_match_15 : decode cX10_match 15 = .ok (.iconst 3, 1) := by decide +kernel
theorem dX10_match_16 : decode cX10_match 16 = .ok (.invokestatic 182, 3) := by decide +kernel
theorem dX10_match_19 : decode cX10_match 19 = .ok (.ifCond .ne 6, 3) := by decide +kernel
theorem dX10_match_22 : decode cX10_match 22 = .ok (.bipush (-102), 2) := by decide +kernel
theorem dX10_match_24 : decode cX10_match 24 = .ok (.ireturn, 1) := by decide +kernel
theorem dX10_match_25 : decode cX10_match 25 = .ok (.aload_n 0, 1) := by decide +kernel
theorem dX10_match_26 : decode cX10_match 26 = .ok (.iload_n 1, 1) := by decide +kernel
theorem dX10_match_27 : decode cX10_match 27 = .ok (.invokevirtual 207, 3) := by decide +kernel
theorem dX10_match_30 : decode cX10_match 30 = .ok (.istore_n 3, 1) := by decide +kernel
theorem dX10_match_31 : decode cX10_match 31 = .ok (.iload_n 2, 1) := by decide +kernel
theorem dX10_match_32 : decode cX10_match 32 = .ok (.bipush 10, 2) := by decide +kernel
theorem dX10_match_34 : decode cX10_match 34 = .ok (.if_icmp .lt 36, 3) := by decide +kernel
theorem dX10_match_37 : decode cX10_match 37 = .ok (.iload_n 2, 1) := by decide +kernel
theorem dX10_match_38 : decode cX10_match 38 = .ok (.bipush 10, 2) := by decide +kernel
theorem dX10_match_40 : decode cX10_match 40 = .ok (.isub, 1) := by decide +kernel
theorem dX10_match_41 : decode cX10_match 41 = .ok (.istore 4, 2) := by decide +kernel
theorem dX10_match_43 : decode cX10_match 43 = .ok (.iload 4, 2) := by decide +kernel
theorem dX10_match_45 : decode cX10_match 45 = .ok (.aload_n 0, 1) := by decide +kernel
theorem dX10_match_46 : decode cX10_match 46 = .ok (.getfield 32, 3) := by decide +kernel
theorem dX10_match_49 : decode cX10_match 49 = .ok (.getfield 118, 3) := by decide +kernel
theorem dX10_match_52 : decode cX10_match 52 = .ok (.if_icmp .ge 16, 3) := by decide +kernel
theorem dX10_match_55 : decode cX10_match 55 = .ok (.getstatic 210, 3) := by decide +kernel
theorem dX10_match_58 : decode cX10_match 58 = .ok (.iload_n 3, 1) := by decide +kernel
theorem dX10_match_59 : decode cX10_match 59 = .ok (.iload 4, 2) := by decide +kernel
theorem dX10_match_61 : decode cX10_match 61 = .ok (.iadd, 1) := by decide +kernel
theorem dX10_match_62 : decode cX10_match 62 = .ok (.invokestatic 214, 3) := by decide +kernel
theorem dX10_match_65 : decode cX10_match 65 = .ok (.goto 4, 3) := by decide +kernel
theorem dX10_match_68 : decode cX10_match 68 = .ok (.iconst (-1), 1) := by decide +kernel
theorem dX10_match_69 : decode cX10_match 69 = .ok (.ireturn, 1) := by decide +kernel
theorem dX10_match_70 : decode cX10_match 70 = .ok (.aload_n 0, 1) := by decide +kernel
theorem dX10_match_71 : decode cX10_match 71 = .ok (.iload_n 1, 1) := by decide +kernel
theorem dX10_match_72 : decode cX10_match 72 = .ok (.iload_n 3, 1) := by decide +kernel
theorem dX10_match_73 : decode cX10_match 73 = .ok (.invokevirtual 218, 3) := by decide +kernel
theorem dX10_match_76 : decode cX10_match 76 = .ok (.i2l, 1) := by decide +kernel
theorem dX10_match_77 : decode cX10_match 77 = .ok (.aload_n 0, 1) := by decide +kernel
theorem dX10_match_78 : decode cX10_match 78 = .ok (.getfield 19, 3) := by decide +kernel
theorem dX10_match_81 : decode cX10_match 81 = .ok (.iload_n 1, 1) := by decide +kernel
theorem dX10_match_82 : decode cX10_match 82 = .ok (.invokevirtual 100, 3) := by decide +kernel
theorem dX10_match_85 : decode cX10_match 85 = .ok (.i2l, 1) := by decide +kernel
theorem dX10_match_86 : decode cX10_match 86 = .ok (.lmul, 1) := by decide +kernel
theorem dX10_match_87 : decode cX10_match 87 = .ok (.lstore 4, 2) := by decide +kernel
theorem dX10_match_89 : decode cX10_match 89 = .ok (.lload 4, 2) := by decide +kernel
theorem dX10_match_91 : decode cX10_match 91 = .ok (.ldc2_w 221, 3) := by decide +kernel
theorem dX10_match_94 : decode cX10_match 94 = .ok (.iload_n 2, 1) := by decide +kernel
theorem dX10_match_95 : decode cX10_match 95 = .ok (.invokestatic 203, 3) := by decide +kernel
theorem dX10_match_98 : decode cX10_match 98 = .ok (.l2i, 1) := by decide +kernel
theorem dX10_match_99 : decode cX10_match 99 = .ok (.ireturn, 1) := by decide +kernel
theorem dX10_faults_0 : decode cX10_faults 0 = .ok (.aload_n 0, 1) := by decide +kernel
theorem dX10_faults_1 : decode cX10_faults 1 = .ok (.iload_n 1, 1) := by decide +kernel
theorem dX10_faults_2 : decode cX10_faults 2 = .ok (.invokevirtual 127, 3) := by decide +kernel
theorem dX10_faults_5 : decode cX10_faults 5 = .ok (.astore 4, 2) := by decide +kernel
theorem dX10_faults_7 : decode cX10_faults 7 = .ok (.aload 4, 2) := by decide +kernel
theorem dX10_faults_9 : decode cX10_faults 9 = .ok (.ifnonnull 6, 3) := by decide +kernel
theorem dX10_faults_12 : decode cX10_faults 12 = .ok (.bipush (-101), 2) := by decide +kernel
theorem dX10_faults_14 : decode cX10_faults 14 = .ok (.ireturn, 1) := by decide +kernel
theorem dX10_faults_15 : decode cX10_faults 15 = .ok (.iload_n 2, 1) := by decide +kernel
theorem dX10_faults_16 : decode cX10_faults 16 = .ok (.ifCond .lt 18, 3) := by decide +kernel
theorem dX10_faults_19 : decode cX10_faults 19 = .ok (.iload_n 2, 1) := by decide +kernel
theorem dX10_faults_20 : decode cX10_faults 20 = .ok (.bipush 25, 2) := by decide +kernel
theorem dX10_faults_22 : decode cX10_faults 22 = .ok (.if_icmp .gt 12, 3) := by decide +kernel
theorem dX10_faults_25 : decode cX10_faults 25 = .ok (.iload_n 3, 1) := by decide +kernel
theorem dX10_faults_26 : decode cX10_faults 26 = .ok (.ifCond .lt 8, 3) := by decide +kernel
theorem dX10_faults_29 : decode cX10_faults 29 = .ok (.iload_n 3, 1) := by decide +kernel
theorem dX10_faults_30 : decode cX10_faults 30 = .ok (.iconst 1, 1) := by decide +kernel
theorem dX10_faults_31 : decode cX10_faults 31 = .ok (.if_icmp .le 6, 3) := by decide +kernel
theorem dX10_faults_34 : decode cX10_faults 34 = .ok (.bipush (-102), 2) := by decide +kernel
theorem dX10_faults_36 : decode cX10_faults 36 = .ok (.ireturn, 1) := by decide +kernel
theorem dX10_faults_37 : decode cX10_faults 37 = .ok (.aload_n 0, 1) := by decide +kernel
theorem dX10_faults_38 : decode cX10_faults 38 = .ok (.getfield 32, 3) := by decide +kernel
theorem dX10_faults_41 : decode cX10_faults 41 = .ok (.iload_n 1, 1) := by decide +kernel
theorem dX10_faults_42 : decode cX10_faults 42 = .ok (.invokevirtual 137, 3) := by decide +kernel
theorem dX10_faults_45 : decode cX10_faults 45 = .ok (.istore 5, 2) := by decide +kernel
theorem dX10_faults_47 : decode cX10_faults 47 = .ok (.aload_n 0, 1) := by decide +kernel
theorem dX10_faults_48 : decode cX10_faults 48 = .ok (.getfield 32, 3) := by decide +kernel
theorem dX10_faults_51 : decode cX10_faults 51 = .ok (.iload 5, 2) := by decide +kernel
theorem dX10_faults_53 : decode cX10_faults 53 = .ok (.invokevirtual 112, 3) := by decide +kernel
theorem dX10_faults_56 : decode cX10_faults 56 = .ok (.istore 6, 2) := by decide +kernel
theorem dX10_faults_58 : decode cX10_faults 58 = .ok (.aload_n 0, 1) := by decide +kernel
theorem dX10_faults_59 : decode cX10_faults 59 = .ok (.getfield 52, 3) := by decide +kernel
theorem dX10_faults_62 : decode cX10_faults 62 = .ok (.aload_n 0, 1) := by decide +kernel
theorem dX10_faults_63 : decode cX10_faults 63 = .ok (.getfield 19, 3) := by decide +kernel
theorem dX10_faults_66 : decode cX10_faults 66 = .ok (.aload 4, 2) := by decide +kernel
theorem dX10_faults_68 : decode cX10_faults 68 = .ok (.aload_n 0, 1) := by decide +kernel
theorem dX10_faults_69 : decode cX10_faults 69 = .ok (.getfield 32, 3) := by decide +kernel
theorem dX10_faults_72 : decode cX10_faults 72 = .ok (.iload_n 1, 1) := by decide +kernel
theorem dX10_faults_73 : decode cX10_faults 73 = .ok (.invokevirtual 146, 3) := by decide +kernel
theorem dX10_faults_76 : decode cX10_faults 76 = .ok (.aload_n 0, 1) := by decide +kernel
theorem dX10_faults_77 : decode cX10_faults 77 = .ok (.getfield 32, 3) := by decide +kernel
theorem dX10_faults_80 : decode cX10_faults 80 = .ok (.iload_n 1, 1) := by decide +kernel
theorem dX10_faults_81 : decode cX10_faults 81 = .ok (.iload 5, 2) := by decide +kernel
theorem dX10_faults_83 : decode cX10_faults 83 = .ok (.invokevirtual 149, 3) := by decide +kernel
theorem dX10_faults_86 : decode cX10_faults 86 = .ok (.iload 6, 2) := by decide +kernel
theorem dX10_faults_88 : decode cX10_faults 88 = .ok (.iload 6, 2) := by decide +kernel
theorem dX10_faults_90 : decode cX10_faults 90 = .ok (.iload_n 2, 1) := by decide +kernel
theorem dX10_faults_91 : decode cX10_faults 91 = .ok (.iadd, 1) := by decide +kernel
theorem dX10_faults_92 : decode cX10_faults 92 = .ok (.invokevirtual 223, 3) := by decide +kernel
theorem dX10_faults_95 : decode cX10_faults 95 = .ok (.iload_n 3, 1) := by decide +kernel
theorem dX10_faults_96 : decode cX10_faults 96 = .ok (.ifCond .ne 11, 3) := by decide +kernel
theorem dX10_faults_99 : decode cX10_faults 99 = .ok (.aload_n 0, 1) := by decide +kernel
theorem dX10_faults_100 : decode cX10_faults 100 = .ok (.getfield 52, 3) := by decide +kernel
theorem dX10_faults_103 : decode cX10_faults 103 = .ok (.getfield 226, 3) := by decide +kernel
theorem dX10_faults_106 : decode cX10_faults 106 = .ok (.ireturn, 1) := by decide +kernel
theorem dX10_faults_107 : decode cX10_faults 107 = .ok (.aload_n 0, 1) := by decide +kernel
theorem dX10_faults_108 : decode cX10_faults 108 = .ok (.getfield 52, 3) := by decide +kernel
theorem dX10_faults_111 : decode cX10_faults 111 = .ok (.getfield 226, 3) := by decide +kernel
theorem dX10_faults_114 : decode cX10_faults 114 = .ok (.ifCond .ne 7, 3) := by decide +kernel
theorem dX10_faults_117 : decode cX10_faults 117 = .ok (.iconst (-1), 1) := by decide +kernel
theorem dX10_faults_118 : decode cX10_faults 118 = .ok (.goto 10, 3) := by decide +kernel
theorem dX10_faults_121 : decode cX10_faults 121 = .ok (.aload_n 0, 1) := by decide +kernel
theorem dX10_faults_122 : decode cX10_faults 122 = .ok (.getfield 52, 3) := by decide +kernel
theorem dX10_faults_125 : decode cX10_faults 125 = .ok (.getfield 229, 3) := by decide +kernel
theorem dX10_faults_128 : decode cX10_faults 128 = .ok (.ireturn, 1) := by decide +kernel
theorem dX10_hear_0 : decode cX10_hear 0 = .ok (.aload_n 0, 1) := by decide +kernel
theorem dX10_hear_1 : decode cX10_hear 1 = .ok (.iload_n 1, 1) := by decide +kernel
theorem dX10_hear_2 : decode cX10_hear 2 = .ok (.invokevirtual 127, 3) := by decide +kernel
theorem dX10_hear_5 : decode cX10_hear 5 = .ok (.ifnull 14, 3) := by decide +kernel
theorem dX10_hear_8 : decode cX10_hear 8 = .ok (.aload_n 0, 1) := by decide +kernel
theorem dX10_hear_9 : decode cX10_hear 9 = .ok (.getfield 19, 3) := by decide +kernel
theorem dX10_hear_12 : decode cX10_hear 12 = .ok (.iload_n 2, 1) := by decide +kernel
theorem dX10_hear_13 : decode cX10_hear 13 = .ok (.invokevirtual 92, 3) := by decide +kernel
theorem dX10_hear_16 : decode cX10_hear 16 = .ok (.ifCond .ne 6, 3) := by decide +kernel
theorem dX10_hear_19 : decode cX10_hear 19 = .ok (.bipush (-101), 2) := by decide +kernel
theorem dX10_hear_21 : decode cX10_hear 21 = .ok (.ireturn, 1) := by decide +kernel
theorem dX10_hear_22 : decode cX10_hear 22 = .ok (.aload_n 0, 1) := by decide +kernel
theorem dX10_hear_23 : decode cX10_hear 23 = .ok (.getfield 32, 3) := by decide +kernel
theorem dX10_hear_26 : decode cX10_hear 26 = .ok (.getfield 232, 3) := by decide +kernel
theorem dX10_hear_29 : decode cX10_hear 29 = .ok (.bipush 6, 2) := by decide +kernel
theorem dX10_hear_31 : decode cX10_hear 31 = .ok (.if_icmp .lt 6, 3) := by decide +kernel
theorem dX10_hear_34 : decode cX10_hear 34 = .ok (.bipush (-104), 2) := by decide +kernel
theorem dX10_hear_36 : decode cX10_hear 36 = .ok (.ireturn, 1) := by decide +kernel
theorem dX10_hear_37 : decode cX10_hear 37 = .ok (.aload_n 0, 1) := by decide +kernel
theorem dX10_hear_38 : decode cX10_hear 38 = .ok (.getfield 32, 3) := by decide +kernel
theorem dX10_hear_41 : decode cX10_hear 41 = .ok (.iload_n 1, 1) := by decide +kernel
theorem dX10_hear_42 : decode cX10_hear 42 = .ok (.iload_n 2, 1) := by decide +kernel
theorem dX10_hear_43 : decode cX10_hear 43 = .ok (.iload_n 3, 1) := by decide +kernel
theorem dX10_hear_44 : decode cX10_hear 44 = .ok (.invokevirtual 235, 3) := by decide +kernel
theorem dX10_hear_47 : decode cX10_hear 47 = .ok (.aload_n 0, 1) := by decide +kernel
theorem dX10_hear_48 : decode cX10_hear 48 = .ok (.getfield 32, 3) := by decide +kernel
theorem dX10_hear_51 : decode cX10_hear 51 = .ok (.getfield 232, 3) := by decide +kernel
theorem dX10_hear_54 : decode cX10_hear 54 = .ok (.ireturn, 1) := by decide +kernel
theorem dX10_forget_0 : decode cX10_forget 0 = .ok (.aload_n 0, 1) := by decide +kernel
theorem dX10_forget_1 : decode cX10_forget 1 = .ok (.getfield 32, 3) := by decide +kernel
theorem dX10_forget_4 : decode cX10_forget 4 = .ok (.getfield 232, 3) := by decide +kernel
theorem dX10_forget_7 : decode cX10_forget 7 = .ok (.istore_n 1, 1) := by decide +kernel
theorem dX10_forget_8 : decode cX10_forget 8 = .ok (.aload_n 0, 1) := by decide +kernel
theorem dX10_forget_9 : decode cX10_forget 9 = .ok (.getfield 32, 3) := by decide +kernel
theorem dX10_forget_12 : decode cX10_forget 12 = .ok (.iconst 0, 1) := by decide +kernel
theorem dX10_forget_13 : decode cX10_forget 13 = .ok (.putfield 232, 3) := by decide +kernel
theorem dX10_forget_16 : decode cX10_forget 16 = .ok (.iload_n 1, 1) := by decide +kernel
theorem dX10_forget_17 : decode cX10_forget 17 = .ok (.ireturn, 1) := by decide +kernel
theorem dX10_fondness_0 : decode cX10_fondness 0 = .ok (.aload_n 0, 1) := by decide +kernel
theorem dX10_fondness_1 : decode cX10_fondness 1 = .ok (.iload_n 1, 1) := by decide +kernel
theorem dX10_fondness_2 : decode cX10_fondness 2 = .ok (.invokevirtual 127, 3) := by decide +kernel
theorem dX10_fondness_5 : decode cX10_fondness 5 = .ok (.astore_n 2, 1) := by decide +kernel
theorem dX10_fondness_6 : decode cX10_fondness 6 = .ok (.aload_n 2, 1) := by decide +kernel
theorem dX10_fondness_7 : decode cX10_fondness 7 = .ok (.ifnonnull 6, 3) := by decide +kernel
theorem dX10_fondness_10 : decode cX10_fondness 10 = .ok (.bipush (-101), 2) := by decide +kernel
theorem dX10_fondness_12 : decode cX10_fondness 12 = .ok (.ireturn, 1) := by decide +kernel
theorem dX10_fondness_13 : decode cX10_fondness 13 = .ok (.iconst 0, 1) := by decide +kernel
theorem dX10_fondness_14 : decode cX10_fondness 14 = .ok (.istore_n 3, 1) := by decide +kernel
theorem dX10_fondness_15 : decode cX10_fondness 15 = .ok (.iconst 0, 1) := by decide +kernel
theorem dX10_fondness_16 : decode cX10_fondness 16 = .ok (.istore 4, 2) := by decide +kernel
theorem dX10_fondness_18 : decode cX10_fondness 18 = .ok (.iload 4, 2) := by decide +kernel
theorem dX10_fondness_20 : decode cX10_fondness 20 = .ok (.bipush 9, 2) := by decide +kernel
theorem dX10_fondness_22 : decode cX10_fondness 22 = .ok (.if_icmp .gt 27, 3) := by decide +kernel
theorem dX10_fondness_25 : decode cX10_fondness 25 = .ok (.aload_n 0, 1) := by decide +kernel
theorem dX10_fondness_26 : decode cX10_fondness 26 = .ok (.iload_n 1, 1) := by decide +kernel
theorem dX10_fondness_27 : decode cX10_fondness 27 = .ok (.aload_n 2, 1) := by decide +kernel
theorem dX10_fondness_28 : decode cX10_fondness 28 = .ok (.iload 4, 2) := by decide +kernel
theorem dX10_fondness_30 : decode cX10_fondness 30 = .ok (.invokevirtual 239, 3) := by decide +kernel
theorem dX10_fondness_33 : decode cX10_fondness 33 = .ok (.ifCond .eq 10, 3) := by decide +kernel
theorem dX10_fondness_36 : decode cX10_fondness 36 = .ok (.iload_n 3, 1) := by decide +kernel
theorem dX10_fondness_37 : decode cX10_fondness 37 = .ok (.iconst 1, 1) := by decide +kernel
theorem dX10_fondness_38 : decode cX10_fondness 38 = .ok (.iload 4, 2) := by decide +kernel
theorem dX10_fondness_40 : decode cX10_fondness 40 = .ok (.ishl, 1) := by decide +kernel
theorem dX10_fondness_41 : decode cX10_fondness 41 = .ok (.ior, 1) := by decide +kernel
theorem dX10_fondness_42 : decode cX10_fondness 42 = .ok (.istore_n 3, 1) := by decide +kernel
theorem dX10_fondness_43 : decode cX10_fondness 43 = .ok (.iinc 4 1, 3) := by decide +kernel
theorem dX10_fondness_46 : decode cX10_fondness 46 = .ok (.goto (-28), 3) := by decide +kernel
theorem dX10_fondness_49 : decode cX10_fondness 49 = .ok (.iload_n 3, 1) := by decide +kernel
theorem dX10_fondness_50 : decode cX10_fondness 50 = .ok (.ireturn, 1) := by decide +kernel
theorem dX10_schools_0 : decode cX10_schools 0 = .ok (.iload_n 1, 1) := by decide +kernel
theorem dX10_schools_1 : decode cX10_schools 1 = .ok (.iconst 1, 1) := by decide +kernel
theorem dX10_schools_2 : decode cX10_schools 2 = .ok (.if_icmp .lt 22, 3) := by decide +kernel
theorem dX10_schools_5 : decode cX10_schools 5 = .ok (.iload_n 1, 1) := by decide +kernel
theorem dX10_schools_6 : decode cX10_schools 6 = .ok (.bipush 20, 2) := by decide +kernel
theorem dX10_schools_8 : decode cX10_schools 8 = .ok (.if_icmp .gt 16, 3) := by decide +kernel
theorem dX10_schools_11 : decode cX10_schools 11 = .ok (.iload_n 2, 1) := by decide +kernel
theorem dX10_schools_12 : decode cX10_schools 12 = .ok (.ifCond .lt 12, 3) := by decide +kernel
theorem dX10_schools_15 : decode cX10_schools 15 = .ok (.iload_n 3, 1) := by decide +kernel
theorem dX10_schools_16 : decode cX10_schools 16 = .ok (.ifCond .lt 8, 3) := by decide +kernel
theorem dX10_schools_19 : decode cX10_schools 19 = .ok (.iload_n 3, 1) := by decide +kernel
theorem dX10_schools_20 : decode cX10_schools 20 = .ok (.iconst 2, 1) := by decide +kernel
theorem dX10_schools_21 : decode cX10_schools 21 = .ok (.if_icmp .le 6, 3) := by decide +kernel
theorem dX10_schools_24 : decode cX10_schools 24 = .ok (.bipush (-102), 2) := by decide +kernel
theorem dX10_schools_26 : decode cX10_schools 26 = .ok (.ireturn, 1) := by decide +kernel
theorem dX10_schools_27 : decode cX10_schools 27 = .ok (.aload_n 0, 1) := by decide +kernel
theorem dX10_schools_28 : decode cX10_schools 28 = .ok (.getfield 32, 3) := by decide +kernel
theorem dX10_schools_31 : decode cX10_schools 31 = .ok (.getfield 118, 3) := by decide +kernel
theorem dX10_schools_34 : decode cX10_schools 34 = .ok (.ifCond .ne 6, 3) := by decide +kernel
theorem dX10_schools_37 : decode cX10_schools 37 = .ok (.bipush (-103), 2) := by decide +kernel
theorem dX10_schools_39 : decode cX10_schools 39 = .ok (.ireturn, 1) := by decide +kernel
theorem dX10_schools_40 : decode cX10_schools 40 = .ok (.aload_n 0, 1) := by decide +kernel
theorem dX10_schools_41 : decode cX10_schools 41 = .ok (.getfield 39, 3) := by decide +kernel
theorem dX10_schools_44 : decode cX10_schools 44 = .ok (.aload_n 0, 1) := by decide +kernel
theorem dX10_schools_45 : decode cX10_schools 45 = .ok (.getfield 32, 3) := by decide +kernel
theorem dX10_schools_48 : decode cX10_schools 48 = .ok (.invokevirtual 243, 3) := by decide +kernel
theorem dX10_schools_51 : decode cX10_schools 51 = .ok (.iload_n 2, 1) := by decide +kernel
theorem dX10_schools_52 : decode cX10_schools 52 = .ok (.istore 4, 2) := by decide +kernel
theorem dX10_schools_54 : decode cX10_schools 54 = .ok (.iconst 0, 1) := by decide +kernel
theorem dX10_schools_55 : decode cX10_schools 55 = .ok (.istore 5, 2) := by decide +kernel
theorem dX10_schools_57 : decode cX10_schools 57 = .ok (.iload 5, 2) := by decide +kernel
theorem dX10_schools_59 : decode cX10_schools 59 = .ok (.iload_n 1, 1) := by decide +kernel
theorem dX10_schools_60 : decode cX10_schools 60 = .ok (.if_icmp .ge 40, 3) := by decide +kernel
theorem dX10_schools_63 : decode cX10_schools 63 = .ok (.iconst 0, 1) := by decide +kernel
theorem dX10_schools_64 : decode cX10_schools 64 = .ok (.istore 6, 2) := by decide +kernel
theorem dX10_schools_66 : decode cX10_schools 66 = .ok (.iload 6, 2) := by decide +kernel
theorem dX10_schools_68 : decode cX10_schools 68 = .ok (.aload_n 0, 1) := by decide +kernel
theorem dX10_schools_69 : decode cX10_schools 69 = .ok (.getfield 32, 3) := by decide +kernel
theorem dX10_schools_72 : decode cX10_schools 72 = .ok (.getfield 118, 3) := by decide +kernel
theorem dX10_schools_75 : decode cX10_schools 75 = .ok (.if_icmp .ge 19, 3) := by decide +kernel
theorem dX10_schools_78 : decode cX10_schools 78 = .ok (.aload_n 0, 1) := by decide +kernel
theorem dX10_schools_79 : decode cX10_schools 79 = .ok (.iload 6, 2) := by decide +kernel
theorem dX10_schools_81 : decode cX10_schools 81 = .ok (.iload 4, 2) := by decide +kernel
theorem dX10_schools_83 : decode cX10_schools 83 = .ok (.invokevirtual 247, 3) := by decide +kernel
theorem dX10_schools_86 : decode cX10_schools 86 = .ok (.istore 4, 2) := by decide +kernel
theorem dX10_schools_88 : decode cX10_schools 88 = .ok (.iinc 6 1, 3) := by decide +kernel
theorem dX10_schools_91 : decode cX10_schools 91 = .ok (.goto (-25), 3) := by decide +kernel
theorem dX10_schools_94 : decode cX10_schools 94 = .ok (.iinc 5 1, 3) := by decide +kernel
theorem dX10_schools_97 : decode cX10_schools 97 = .ok (.goto (-40), 3) := by decide +kernel
theorem dX10_schools_100 : decode cX10_schools 100 = .ok (.iload_n 3, 1) := by decide +kernel
theorem dX10_schools_101 : decode cX10_schools 101 = .ok (.lookupswitch 51 #[(0, 27), (1, 43)], 27) := by decide +kernel
theorem dX10_schools_128 : decode cX10_schools 128 = .ok (.aload_n 0, 1) := by decide +kernel
theorem dX10_schools_129 : decode cX10_schools 129 = .ok (.getfield 39, 3) := by decide +kernel
theorem dX10_schools_132 : decode cX10_schools 132 = .ok (.invokevirtual 250, 3) := by decide +kernel
theorem dX10_schools_135 : decode cX10_schools 135 = .ok (.aload_n 0, 1) := by decide +kernel
theorem dX10_schools_136 : decode cX10_schools 136 = .ok (.getfield 32, 3) := by decide +kernel
theorem dX10_schools_139 : decode cX10_schools 139 = .ok (.invokevirtual 250, 3) := by decide +kernel
theorem dX10_schools_142 : decode cX10_schools 142 = .ok (.isub, 1) := by decide +kernel
theorem dX10_schools_143 : decode cX10_schools 143 = .ok (.ireturn, 1) := by decide +kernel
theorem dX10_schools_144 : decode cX10_schools 144 = .ok (.aload_n 0, 1) := by decide +kernel
theorem dX10_schools_145 : decode cX10_schools 145 = .ok (.getfield 39, 3) := by decide +kernel
theorem dX10_schools_148 : decode cX10_schools 148 = .ok (.invokevirtual 253, 3) := by decide +kernel
theorem dX10_schools_151 : decode cX10_schools 151 = .ok (.ireturn, 1) := by decide +kernel
theorem dX10_schools_152 : decode cX10_schools 152 = .ok (.iload 4, 2) := by decide +kernel
theorem dX10_schools_154 : decode cX10_schools 154 = .ok (.ireturn, 1) := by decide +kernel
theorem dX10_image_0 : decode cX10_image 0 = .ok (.aload_n 0, 1) := by decide +kernel
theorem dX10_image_1 : decode cX10_image 1 = .ok (.getfield 19, 3) := by decide +kernel
theorem dX10_image_4 : decode cX10_image 4 = .ok (.invokevirtual 106, 3) := by decide +kernel
theorem dX10_image_7 : decode cX10_image 7 = .ok (.ifCond .ne 6, 3) := by decide +kernel
theorem dX10_image_10 : decode cX10_image 10 = .ok (.bipush (-103), 2) := by decide +kernel
theorem dX10_image_12 : decode cX10_image 12 = .ok (.ireturn, 1) := by decide +kernel
theorem dX10_image_13 : decode cX10_image 13 = .ok (.aload_n 0, 1) := by decide +kernel
theorem dX10_image_14 : decode cX10_image 14 = .ok (.getfield 36, 3) := by decide +kernel
theorem dX10_image_17 : decode cX10_image 17 = .ok (.aload_n 0, 1) := by decide +kernel
theorem dX10_image_18 : decode cX10_image 18 = .ok (.getfield 32, 3) := by decide +kernel
theorem dX10_image_21 : decode cX10_image 21 = .ok (.invokevirtual 243, 3) := by decide +kernel
theorem dX10_image_24 : decode cX10_image 24 = .ok (.aload_n 0, 1) := by decide +kernel
theorem dX10_image_25 : decode cX10_image 25 = .ok (.iconst 1, 1) := by decide +kernel
theorem dX10_image_26 : decode cX10_image 26 = .ok (.putfield 56, 3) := by decide +kernel
theorem dX10_image_29 : decode cX10_image 29 = .ok (.aload_n 0, 1) := by decide +kernel
theorem dX10_image_30 : decode cX10_image 30 = .ok (.getfield 32, 3) := by decide +kernel
theorem dX10_image_33 : decode cX10_image 33 = .ok (.invokevirtual 250, 3) := by decide +kernel
theorem dX10_image_36 : decode cX10_image 36 = .ok (.ireturn, 1) := by decide +kernel
theorem dX10_restore_0 : decode cX10_restore 0 = .ok (.aload_n 0, 1) := by decide +kernel
theorem dX10_restore_1 : decode cX10_restore 1 = .ok (.getfield 56, 3) := by decide +kernel
theorem dX10_restore_4 : decode cX10_restore 4 = .ok (.ifCond .ne 6, 3) := by decide +kernel
theorem dX10_restore_7 : decode cX10_restore 7 = .ok (.bipush (-103), 2) := by decide +kernel
theorem dX10_restore_9 : decode cX10_restore 9 = .ok (.ireturn, 1) := by decide +kernel
theorem dX10_restore_10 : decode cX10_restore 10 = .ok (.aload_n 0, 1) := by decide +kernel
theorem dX10_restore_11 : decode cX10_restore 11 = .ok (.getfield 32, 3) := by decide +kernel
theorem dX10_restore_14 : decode cX10_restore 14 = .ok (.aload_n 0, 1) := by decide +kernel
theorem dX10_restore_15 : decode cX10_restore 15 = .ok (.getfield 36, 3) := by decide +kernel
theorem dX10_restore_18 : decode cX10_restore 18 = .ok (.invokevirtual 243, 3) := by decide +kernel
theorem dX10_restore_21 : decode cX10_restore 21 = .ok (.aload_n 0, 1) := by decide +kernel
theorem dX10_restore_22 : decode cX10_restore 22 = .ok (.getfield 32, 3) := by decide +kernel
theorem dX10_restore_25 : decode cX10_restore 25 = .ok (.invokevirtual 250, 3) := by decide +kernel
theorem dX10_restore_28 : decode cX10_restore 28 = .ok (.ireturn, 1) := by decide +kernel
theorem dX10_count_0 : decode cX10_count 0 = .ok (.iload_n 1, 1) := by decide +kernel
theorem dX10_count_1 : decode cX10_count 1 = .ok (.tableswitch 117 0 8 #[51, 59, 67, 75, 83, 91, 99, 107, 112], 51) := by decide +kernel
theorem dX10_count_52 : decode cX10_count 52 = .ok (.aload_n 0, 1) := by decide +kernel
theorem dX10_count_53 : decode cX10_count 53 = .ok (.getfield 19, 3) := by decide +kernel
theorem dX10_count_56 : decode cX10_count 56 = .ok (.getfield 89, 3) := by decide +kernel
theorem dX10_count_59 : decode cX10_count 59 = .ok (.ireturn, 1) := by decide +kernel
theorem dX10_count_60 : decode cX10_count 60 = .ok (.aload_n 0, 1) := by decide +kernel
theorem dX10_count_61 : decode cX10_count 61 = .ok (.getfield 19, 3) := by decide +kernel
theorem dX10_count_64 : decode cX10_count 64 = .ok (.getfield 256, 3) := by decide +kernel
theorem dX10_count_67 : decode cX10_count 67 = .ok (.ireturn, 1) := by decide +kernel
theorem dX10_count_68 : decode cX10_count 68 = .ok (.aload_n 0, 1) := by decide +kernel
theorem dX10_count_69 : decode cX10_count 69 = .ok (.getfield 32, 3) := by decide +kernel
theorem dX10_count_72 : decode cX10_count 72 = .ok (.getfield 118, 3) := by decide +kernel
theorem dX10_count_75 : decode cX10_count 75 = .ok (.ireturn, 1) := by decide +kernel
theorem dX10_count_76 : decode cX10_count 76 = .ok (.aload_n 0, 1) := by decide +kernel
theorem dX10_count_77 : decode cX10_count 77 = .ok (.getfield 32, 3) := by decide +kernel
theorem dX10_count_80 : decode cX10_count 80 = .ok (.invokevirtual 250, 3) := by decide +kernel
theorem dX10_count_83 : decode cX10_count 83 = .ok (.ireturn, 1) := by decide +kernel
theorem dX10_count_84 : decode cX10_count 84 = .ok (.aload_n 0, 1) := by decide +kernel
theorem dX10_count_85 : decode cX10_count 85 = .ok (.getfield 32, 3) := by decide +kernel
theorem dX10_count_88 : decode cX10_count 88 = .ok (.invokevirtual 253, 3) := by decide +kernel
theorem dX10_count_91 : decode cX10_count 91 = .ok (.ireturn, 1) := by decide +kernel
theorem dX10_count_92 : decode cX10_count 92 = .ok (.aload_n 0, 1) := by decide +kernel
theorem dX10_count_93 : decode cX10_count 93 = .ok (.getfield 32, 3) := by decide +kernel
theorem dX10_count_96 : decode cX10_count 96 = .ok (.getfield 232, 3) := by decide +kernel
theorem dX10_count_99 : decode cX10_count 99 = .ok (.ireturn, 1) := by decide +kernel
theorem dX10_count_100 : decode cX10_count 100 = .ok (.aload_n 0, 1) := by decide +kernel
theorem dX10_count_101 : decode cX10_count 101 = .ok (.getfield 12, 3) := by decide +kernel
theorem dX10_count_104 : decode cX10_count 104 = .ok (.getfield 67, 3) := by decide +kernel
theorem dX10_count_107 : decode cX10_count 107 = .ok (.ireturn, 1) := by decide +kernel
theorem dX10_count_108 : decode cX10_count 108 = .ok (.aload_n 0, 1) := by decide +kernel
theorem dX10_count_109 : decode cX10_count 109 = .ok (.getfield 60, 3) := by decide +kernel
theorem dX10_count_112 : decode cX10_count 112 = .ok (.ireturn, 1) := by decide +kernel
theorem dX10_count_113 : decode cX10_count 113 = .ok (.aload_n 0, 1) := by decide +kernel
theorem dX10_count_114 : decode cX10_count 114 = .ok (.getfield 64, 3) := by decide +kernel
theorem dX10_count_117 : decode cX10_count 117 = .ok (.ireturn, 1) := by decide +kernel
theorem dX10_count_118 : decode cX10_count 118 = .ok (.bipush (-102), 2) := by decide +kernel
theorem dX10_count_120 : decode cX10_count 120 = .ok (.ireturn, 1) := by decide +kernel
theorem dX10_digest_0 : decode cX10_digest 0 = .ok (.ldc2_w 259, 3) := by decide +kernel
theorem dX10_digest_3 : decode cX10_digest 3 = .ok (.lstore_n 1, 1) := by decide +kernel
theorem dX10_digest_4 : decode cX10_digest 4 = .ok (.iconst 0, 1) := by decide +kernel
theorem dX10_digest_5 : decode cX10_digest 5 = .ok (.istore_n 3, 1) := by decide +kernel
theorem dX10_digest_6 : decode cX10_digest 6 = .ok (.aload_n 0, 1) := by decide +kernel
theorem dX10_digest_7 : decode cX10_digest 7 = .ok (.getfield 19, 3) := by decide +kernel
theorem dX10_digest_10 : decode cX10_digest 10 = .ok (.invokevirtual 106, 3) := by decide +kernel
theorem dX10_digest_13 : decode cX10_digest 13 = .ok (.ifCond .eq 25, 3) := by decide +kernel
theorem dX10_digest_16 : decode cX10_digest 16 = .ok (.iload_n 3, 1) := by decide +kernel
theorem dX10_digest_17 : decode cX10_digest 17 = .ok (.iconst 3, 1) := by decide +kernel
theorem dX10_digest_18 : decode cX10_digest 18 = .ok (.if_icmp .ge 20, 3) := by decide +kernel
theorem dX10_digest_21 : decode cX10_digest 21 = .ok (.lload_n 1, 1) := by decide +kernel
theorem dX10_digest_22 : decode cX10_digest 22 = .ok (.aload_n 0, 1) := by decide +kernel
theorem dX10_digest_23 : decode cX10_digest 23 = .ok (.iload_n 3, 1) := by decide +kernel
theorem dX10_digest_24 : decode cX10_digest 24 = .ok (.invokevirtual 261, 3) := by decide +kernel
theorem dX10_digest_27 : decode cX10_digest 27 = .ok (.i2l, 1) := by decide +kernel
theorem dX10_digest_28 : decode cX10_digest 28 = .ok (.invokestatic 264, 3) := by decide +kernel
theorem dX10_digest_31 : decode cX10_digest 31 = .ok (.lstore_n 1, 1) := by decide +kernel
theorem dX10_digest_32 : decode cX10_digest 32 = .ok (.iinc 3 1, 3) := by decide +kernel
theorem dX10_digest_35 : decode cX10_digest 35 = .ok (.goto (-29), 3) := by decide +kernel
theorem dX10_digest_38 : decode cX10_digest 38 = .ok (.iconst 0, 1) := by decide +kernel
theorem dX10_digest_39 : decode cX10_digest 39 = .ok (.istore_n 3, 1) := by decide +kernel
theorem dX10_digest_40 : decode cX10_digest 40 = .ok (.iload_n 3, 1) := by decide +kernel
theorem dX10_digest_41 : decode cX10_digest 41 = .ok (.aload_n 0, 1) := by decide +kernel
theorem dX10_digest_42 : decode cX10_digest 42 = .ok (.getfield 19, 3) := by decide +kernel
theorem dX10_digest_45 : decode cX10_digest 45 = .ok (.getfield 89, 3) := by decide +kernel
theorem dX10_digest_48 : decode cX10_digest 48 = .ok (.if_icmp .ge 90, 3) := by decide +kernel
theorem dX10_digest_51 : decode cX10_digest 51 = .ok (.iconst 0, 1) := by decide +kernel
theorem dX10_digest_52 : decode cX10_digest 52 = .ok (.istore 4, 2) := by decide +kernel
theorem dX10_digest_54 : decode cX10_digest 54 = .ok (.iload 4, 2) := by decide +kernel
theorem dX10_digest_56 : decode cX10_digest 56 = .ok (.iconst 2, 1) := by decide +kernel
theorem dX10_digest_57 : decode cX10_digest 57 = .ok (.if_icmp .gt 22, 3) := by decide +kernel
theorem dX10_digest_60 : decode cX10_digest 60 = .ok (.lload_n 1, 1) := by decide +kernel
theorem dX10_digest_61 : decode cX10_digest 61 = .ok (.aload_n 0, 1) := by decide +kernel
theorem dX10_digest_62 : decode cX10_digest 62 = .ok (.iload_n 3, 1) := by decide +kernel
theorem dX10_digest_63 : decode cX10_digest 63 = .ok (.iload 4, 2) := by decide +kernel
theorem dX10_digest_65 : decode cX10_digest 65 = .ok (.invokevirtual 268, 3) := by decide +kernel
theorem dX10_digest_68 : decode cX10_digest 68 = .ok (.i2l, 1) := by decide +kernel
theorem dX10_digest_69 : decode cX10_digest 69 = .ok (.invokestatic 264, 3) := by decide +kernel
theorem dX10_digest_72 : decode cX10_digest 72 = .ok (.lstore_n 1, 1) := by decide +kernel
theorem dX10_digest_73 : decode cX10_digest 73 = .ok (.iinc 4 1, 3) := by decide +kernel
theorem dX10_digest_76 : decode cX10_digest 76 = .ok (.goto (-22), 3) := by decide +kernel
theorem dX10_digest_79 : decode cX10_digest 79 = .ok (.lload_n 1, 1) := by decide +kernel
theorem dX10_digest_80 : decode cX10_digest 80 = .ok (.aload_n 0, 1) := by decide +kernel
theorem dX10_digest_81 : decode cX10_digest 81 = .ok (.iload_n 3, 1) := by decide +kernel
theorem dX10_digest_82 : decode cX10_digest 82 = .ok (.iconst 0, 1) := by decide +kernel
theorem dX10_digest_83 : decode cX10_digest 83 = .ok (.invokevirtual 271, 3) := by decide +kernel
theorem dX10_digest_86 : decode cX10_digest 86 = .ok (.i2l, 1) := by decide +kernel
theorem dX10_digest_87 : decode cX10_digest 87 = .ok (.invokestatic 264, 3) := by decide +kernel
theorem dX10_digest_90 : decode cX10_digest 90 = .ok (.aload_n 0, 1) := by decide +kernel
theorem dX10_digest_91 : decode cX10_digest 91 = .ok (.iload_n 3, 1) := by decide +kernel
theorem dX10_digest_92 : decode cX10_digest 92 = .ok (.iconst 1, 1) := by decide +kernel
theorem dX10_digest_93 : decode cX10_digest 93 = .ok (.invokevirtual 271, 3) := by decide +kernel
theorem dX10_digest_96 : decode cX10_digest 96 = .ok (.i2l, 1) := by decide +kernel
theorem dX10_digest_97 : decode cX10_digest 97 = .ok (.invokestatic 264, 3) := by decide +kernel
theorem dX10_digest_100 : decode cX10_digest 100 = .ok (.lstore_n 1, 1) := by decide +kernel
theorem dX10_digest_101 : decode cX10_digest 101 = .ok (.iconst 0, 1) := by decide +kernel
theorem dX10_digest_102 : decode cX10_digest 102 = .ok (.istore 4, 2) := by decide +kernel
theorem dX10_digest_104 : decode cX10_digest 104 = .ok (.iload 4, 2) := by decide +kernel
theorem dX10_digest_106 : decode cX10_digest 106 = .ok (.iconst 3, 1) := by decide +kernel
theorem dX10_digest_107 : decode cX10_digest 107 = .ok (.if_icmp .ge 25, 3) := by decide +kernel
theorem dX10_digest_110 : decode cX10_digest 110 = .ok (.lload_n 1, 1) := by decide +kernel
theorem dX10_digest_111 : decode cX10_digest 111 = .ok (.aload_n 0, 1) := by decide +kernel
theorem dX10_digest_112 : decode cX10_digest 112 = .ok (.iload_n 3, 1) := by decide +kernel
theorem dX10_digest_113 : decode cX10_digest 113 = .ok (.bipush 10, 2) := by decide +kernel
theorem dX10_digest_115 : decode cX10_digest 115 = .ok (.iload 4, 2) := by decide +kernel
theorem dX10_digest_117 : decode cX10_digest 117 = .ok (.iadd, 1) := by decide +kernel
theorem dX10_digest_118 : decode cX10_digest 118 = .ok (.invokevirtual 271, 3) := by decide +kernel
theorem dX10_digest_121 : decode cX10_digest 121 = .ok (.i2l, 1) := by decide +kernel
theorem dX10_digest_122 : decode cX10_digest 122 = .ok (.invokestatic 264, 3) := by decide +kernel
theorem dX10_digest_125 : decode cX10_digest 125 = .ok (.lstore_n 1, 1) := by decide +kernel
theorem dX10_digest_126 : decode cX10_digest 126 = .ok (.iinc 4 1, 3) := by decide +kernel
theorem dX10_digest_129 : decode cX10_digest 129 = .ok (.goto (-25), 3) := by decide +kernel
theorem dX10_digest_132 : decode cX10_digest 132 = .ok (.iinc 3 1, 3) := by decide +kernel
theorem dX10_digest_135 : decode cX10_digest 135 = .ok (.goto (-95), 3) := by decide +kernel
theorem dX10_digest_138 : decode cX10_digest 138 = .ok (.iconst 0, 1) := by decide +kernel
theorem dX10_digest_139 : decode cX10_digest 139 = .ok (.istore_n 3, 1) := by decide +kernel
theorem dX10_digest_140 : decode cX10_digest 140 = .ok (.iload_n 3, 1) := by decide +kernel
theorem dX10_digest_141 : decode cX10_digest 141 = .ok (.aload_n 0, 1) := by decide +kernel
theorem dX10_digest_142 : decode cX10_digest 142 = .ok (.getfield 32, 3) := by decide +kernel
theorem dX10_digest_145 : decode cX10_digest 145 = .ok (.getfield 118, 3) := by decide +kernel
theorem dX10_digest_148 : decode cX10_digest 148 = .ok (.if_icmp .ge 16, 3) := by decide +kernel
theorem dX10_digest_151 : decode cX10_digest 151 = .ok (.aload_n 0, 1) := by decide +kernel
theorem dX10_digest_152 : decode cX10_digest 152 = .ok (.lload_n 1, 1) := by decide +kernel
theorem dX10_digest_153 : decode cX10_digest 153 = .ok (.iload_n 3, 1) := by decide +kernel
theorem dX10_digest_154 : decode cX10_digest 154 = .ok (.invokevirtual 274, 3) := by decide +kernel
theorem dX10_digest_157 : decode cX10_digest 157 = .ok (.lstore_n 1, 1) := by decide +kernel
theorem dX10_digest_158 : decode cX10_digest 158 = .ok (.iinc 3 1, 3) := by decide +kernel
theorem dX10_digest_161 : decode cX10_digest 161 = .ok (.goto (-21), 3) := by decide +kernel
theorem dX10_digest_164 : decode cX10_digest 164 = .ok (.iconst 0, 1) := by decide +kernel
theorem dX10_digest_165 : decode cX10_digest 165 = .ok (.istore_n 3, 1) := by decide +kernel
theorem dX10_digest_166 : decode cX10_digest 166 = .ok (.iload_n 3, 1) := by decide +kernel
theorem dX10_digest_167 : decode cX10_digest 167 = .ok (.aload_n 0, 1) := by decide +kernel
theorem dX10_digest_168 : decode cX10_digest 168 = .ok (.getfield 12, 3) := by decide +kernel
theorem dX10_digest_171 : decode cX10_digest 171 = .ok (.getfield 67, 3) := by decide +kernel
theorem dX10_digest_174 : decode cX10_digest 174 = .ok (.if_icmp .ge 23, 3) := by decide +kernel
theorem dX10_digest_177 : decode cX10_digest 177 = .ok (.lload_n 1, 1) := by decide +kernel
theorem dX10_digest_178 : decode cX10_digest 178 = .ok (.aload_n 0, 1) := by decide +kernel
theorem dX10_digest_179 : decode cX10_digest 179 = .ok (.getfield 12, 3) := by decide +kernel
theorem dX10_digest_182 : decode cX10_digest 182 = .ok (.iload_n 3, 1) := by decide +kernel
theorem dX10_digest_183 : decode cX10_digest 183 = .ok (.invokevirtual 278, 3) := by decide +kernel
theorem dX10_digest_186 : decode cX10_digest 186 = .ok (.i2l, 1) := by decide +kernel
theorem dX10_digest_187 : decode cX10_digest 187 = .ok (.invokestatic 264, 3) := by decide +kernel
theorem dX10_digest_190 : decode cX10_digest 190 = .ok (.lstore_n 1, 1) := by decide +kernel
theorem dX10_digest_191 : decode cX10_digest 191 = .ok (.iinc 3 1, 3) := by decide +kernel
theorem dX10_digest_194 : decode cX10_digest 194 = .ok (.goto (-28), 3) := by decide +kernel
theorem dX10_digest_197 : decode cX10_digest 197 = .ok (.iconst 0, 1) := by decide +kernel
theorem dX10_digest_198 : decode cX10_digest 198 = .ok (.istore_n 3, 1) := by decide +kernel
theorem dX10_digest_199 : decode cX10_digest 199 = .ok (.iload_n 3, 1) := by decide +kernel
theorem dX10_digest_200 : decode cX10_digest 200 = .ok (.bipush 9, 2) := by decide +kernel
theorem dX10_digest_202 : decode cX10_digest 202 = .ok (.if_icmp .ge 20, 3) := by decide +kernel
theorem dX10_digest_205 : decode cX10_digest 205 = .ok (.lload_n 1, 1) := by decide +kernel
theorem dX10_digest_206 : decode cX10_digest 206 = .ok (.aload_n 0, 1) := by decide +kernel
theorem dX10_digest_207 : decode cX10_digest 207 = .ok (.iload_n 3, 1) := by decide +kernel
theorem dX10_digest_208 : decode cX10_digest 208 = .ok (.invokevirtual 281, 3) := by decide +kernel
theorem dX10_digest_211 : decode cX10_digest 211 = .ok (.i2l, 1) := by decide +kernel
theorem dX10_digest_212 : decode cX10_digest 212 = .ok (.invokestatic 264, 3) := by decide +kernel
theorem dX10_digest_215 : decode cX10_digest 215 = .ok (.lstore_n 1, 1) := by decide +kernel
theorem dX10_digest_216 : decode cX10_digest 216 = .ok (.iinc 3 1, 3) := by decide +kernel
theorem dX10_digest_219 : decode cX10_digest 219 = .ok (.goto (-20), 3) := by decide +kernel
theorem dX10_digest_222 : decode cX10_digest 222 = .ok (.lload_n 1, 1) := by decide +kernel
theorem dX10_digest_223 : decode cX10_digest 223 = .ok (.lreturn, 1) := by decide +kernel
theorem dX10_mixPrince_0 : decode cX10_mixPrince 0 = .ok (.lload_n 1, 1) := by decide +kernel
theorem dX10_mixPrince_1 : decode cX10_mixPrince 1 = .ok (.lstore 4, 2) := by decide +kernel
theorem dX10_mixPrince_3 : decode cX10_mixPrince 3 = .ok (.iconst 0, 1) := by decide +kernel
theorem dX10_mixPrince_4 : decode cX10_mixPrince 4 = .ok (.istore 6, 2) := by decide +kernel
theorem dX10_mixPrince_6 : decode cX10_mixPrince 6 = .ok (.iload 6, 2) := by decide +kernel
theorem dX10_mixPrince_8 : decode cX10_mixPrince 8 = .ok (.iconst 4, 1) := by decide +kernel
theorem dX10_mixPrince_9 : decode cX10_mixPrince 9 = .ok (.if_icmp .gt 24, 3) := by decide +kernel
theorem dX10_mixPrince_12 : decode cX10_mixPrince 12 = .ok (.lload 4, 2) := by decide +kernel
theorem dX10_mixPrince_14 : decode cX10_mixPrince 14 = .ok (.aload_n 0, 1) := by decide +kernel
theorem dX10_mixPrince_15 : decode cX10_mixPrince 15 = .ok (.iload_n 3, 1) := by decide +kernel
theorem dX10_mixPrince_16 : decode cX10_mixPrince 16 = .ok (.iload 6, 2) := by decide +kernel
theorem dX10_mixPrince_18 : decode cX10_mixPrince 18 = .ok (.invokevirtual 284, 3) := by decide +kernel
theorem dX10_mixPrince_21 : decode cX10_mixPrince 21 = .ok (.i2l, 1) := by decide +kernel
theorem dX10_mixPrince_22 : decode cX10_mixPrince 22 = .ok (.invokestatic 264, 3) := by decide +kernel
theorem dX10_mixPrince_25 : decode cX10_mixPrince 25 = .ok (.lstore 4, 2) := by decide +kernel
theorem dX10_mixPrince_27 : decode cX10_mixPrince 27 = .ok (.iinc 6 1, 3) := by decide +kernel
theorem dX10_mixPrince_30 : decode cX10_mixPrince 30 = .ok (.goto (-24), 3) := by decide +kernel
theorem dX10_mixPrince_33 : decode cX10_mixPrince 33 = .ok (.iconst 0, 1) := by decide +kernel
theorem dX10_mixPrince_34 : decode cX10_mixPrince 34 = .ok (.istore 6, 2) := by decide +kernel
theorem dX10_mixPrince_36 : decode cX10_mixPrince 36 = .ok (.iload 6, 2) := by decide +kernel
theorem dX10_mixPrince_38 : decode cX10_mixPrince 38 = .ok (.iconst 3, 1) := by decide +kernel
theorem dX10_mixPrince_39 : decode cX10_mixPrince 39 = .ok (.if_icmp .ge 27, 3) := by decide +kernel
theorem dX10_mixPrince_42 : decode cX10_mixPrince 42 = .ok (.lload 4, 2) := by decide +kernel
theorem dX10_mixPrince_44 : decode cX10_mixPrince 44 = .ok (.aload_n 0, 1) := by decide +kernel
theorem dX10_mixPrince_45 : decode cX10_mixPrince 45 = .ok (.iload_n 3, 1) := by decide +kernel
theorem dX10_mixPrince_46 : decode cX10_mixPrince 46 = .ok (.bipush 10, 2) := by decide +kernel
theorem dX10_mixPrince_48 : decode cX10_mixPrince 48 = .ok (.iload 6, 2) := by decide +kernel
theorem dX10_mixPrince_50 : decode cX10_mixPrince 50 = .ok (.iadd, 1) := by decide +kernel
theorem dX10_mixPrince_51 : decode cX10_mixPrince 51 = .ok (.invokevirtual 284, 3) := by decide +kernel
theorem dX10_mixPrince_54 : decode cX10_mixPrince 54 = .ok (.i2l, 1) := by decide +kernel
theorem dX10_mixPrince_55 : decode cX10_mixPrince 55 = .ok (.invokestatic 264, 3) := by decide +kernel
theorem dX10_mixPrince_58 : decode cX10_mixPrince 58 = .ok (.lstore 4, 2) := by decide +kernel
theorem dX10_mixPrince_60 : decode cX10_mixPrince 60 = .ok (.iinc 6 1, 3) := by decide +kernel
theorem dX10_mixPrince_63 : decode cX10_mixPrince 63 = .ok (.goto (-27), 3) := by decide +kernel
theorem dX10_mixPrince_66 : decode cX10_mixPrince 66 = .ok (.iconst 0, 1) := by decide +kernel
theorem dX10_mixPrince_67 : decode cX10_mixPrince 67 = .ok (.istore 6, 2) := by decide +kernel
theorem dX10_mixPrince_69 : decode cX10_mixPrince 69 = .ok (.iload 6, 2) := by decide +kernel
theorem dX10_mixPrince_71 : decode cX10_mixPrince 71 = .ok (.aload_n 0, 1) := by decide +kernel
theorem dX10_mixPrince_72 : decode cX10_mixPrince 72 = .ok (.getfield 19, 3) := by decide +kernel
theorem dX10_mixPrince_75 : decode cX10_mixPrince 75 = .ok (.getfield 89, 3) := by decide +kernel
theorem dX10_mixPrince_78 : decode cX10_mixPrince 78 = .ok (.if_icmp .ge 24, 3) := by decide +kernel
theorem dX10_mixPrince_81 : decode cX10_mixPrince 81 = .ok (.lload 4, 2) := by decide +kernel
theorem dX10_mixPrince_83 : decode cX10_mixPrince 83 = .ok (.aload_n 0, 1) := by decide +kernel
theorem dX10_mixPrince_84 : decode cX10_mixPrince 84 = .ok (.iload_n 3, 1) := by decide +kernel
theorem dX10_mixPrince_85 : decode cX10_mixPrince 85 = .ok (.iload 6, 2) := by decide +kernel
theorem dX10_mixPrince_87 : decode cX10_mixPrince 87 = .ok (.invokevirtual 287, 3) := by decide +kernel
theorem dX10_mixPrince_90 : decode cX10_mixPrince 90 = .ok (.i2l, 1) := by decide +kernel
theorem dX10_mixPrince_91 : decode cX10_mixPrince 91 = .ok (.invokestatic 264, 3) := by decide +kernel
theorem dX10_mixPrince_94 : decode cX10_mixPrince 94 = .ok (.lstore 4, 2) := by decide +kernel
theorem dX10_mixPrince_96 : decode cX10_mixPrince 96 = .ok (.iinc 6 1, 3) := by decide +kernel
theorem dX10_mixPrince_99 : decode cX10_mixPrince 99 = .ok (.goto (-30), 3) := by decide +kernel
theorem dX10_mixPrince_102 : decode cX10_mixPrince 102 = .ok (.lload 4, 2) := by decide +kernel
theorem dX10_mixPrince_104 : decode cX10_mixPrince 104 = .ok (.aload_n 0, 1) := by decide +kernel
theorem dX10_mixPrince_105 : decode cX10_mixPrince 105 = .ok (.iload_n 3, 1) := by decide +kernel
theorem dX10_mixPrince_106 : decode cX10_mixPrince 106 = .ok (.invokevirtual 290, 3) := by decide +kernel
theorem dX10_mixPrince_109 : decode cX10_mixPrince 109 = .ok (.i2l, 1) := by decide +kernel
theorem dX10_mixPrince_110 : decode cX10_mixPrince 110 = .ok (.invokestatic 264, 3) := by decide +kernel
theorem dX10_mixPrince_113 : decode cX10_mixPrince 113 = .ok (.lreturn, 1) := by decide +kernel
theorem dX10_mix_0 : decode cX10_mix 0 = .ok (.ldc2_w 293, 3) := by decide +kernel
theorem dX10_mix_3 : decode cX10_mix 3 = .ok (.lload_n 0, 1) := by decide +kernel
theorem dX10_mix_4 : decode cX10_mix 4 = .ok (.lmul, 1) := by decide +kernel
theorem dX10_mix_5 : decode cX10_mix 5 = .ok (.lload_n 2, 1) := by decide +kernel
theorem dX10_mix_6 : decode cX10_mix 6 = .ok (.ladd, 1) := by decide +kernel
theorem dX10_mix_7 : decode cX10_mix 7 = .ok (.lreturn, 1) := by decide +kernel
theorem dX10_isBoy_0 : decode cX10_isBoy 0 = .ok (.iload_n 0, 1) := by decide +kernel
theorem dX10_isBoy_1 : decode cX10_isBoy 1 = .ok (.ifCond .lt 12, 3) := by decide +kernel
theorem dX10_isBoy_4 : decode cX10_isBoy 4 = .ok (.iload_n 0, 1) := by decide +kernel
theorem dX10_isBoy_5 : decode cX10_isBoy 5 = .ok (.iconst 3, 1) := by decide +kernel
theorem dX10_isBoy_6 : decode cX10_isBoy 6 = .ok (.if_icmp .ge 7, 3) := by decide +kernel
theorem dX10_isBoy_9 : decode cX10_isBoy 9 = .ok (.iconst 1, 1) := by decide +kernel
theorem dX10_isBoy_10 : decode cX10_isBoy 10 = .ok (.goto 4, 3) := by decide +kernel
theorem dX10_isBoy_13 : decode cX10_isBoy 13 = .ok (.iconst 0, 1) := by decide +kernel
theorem dX10_isBoy_14 : decode cX10_isBoy 14 = .ok (.ireturn, 1) := by decide +kernel
theorem dX10_isKind_0 : decode cX10_isKind 0 = .ok (.iload_n 0, 1) := by decide +kernel
theorem dX10_isKind_1 : decode cX10_isKind 1 = .ok (.ifCond .lt 12, 3) := by decide +kernel
theorem dX10_isKind_4 : decode cX10_isKind 4 = .ok (.iload_n 0, 1) := by decide +kernel
theorem dX10_isKind_5 : decode cX10_isKind 5 = .ok (.iconst 4, 1) := by decide +kernel
theorem dX10_isKind_6 : decode cX10_isKind 6 = .ok (.if_icmp .gt 7, 3) := by decide +kernel
theorem dX10_isKind_9 : decode cX10_isKind 9 = .ok (.iconst 1, 1) := by decide +kernel
theorem dX10_isKind_10 : decode cX10_isKind 10 = .ok (.goto 4, 3) := by decide +kernel
theorem dX10_isKind_13 : decode cX10_isKind 13 = .ok (.iconst 0, 1) := by decide +kernel
theorem dX10_isKind_14 : decode cX10_isKind 14 = .ok (.ireturn, 1) := by decide +kernel
theorem dX10_isMeanOrRow_0 : decode cX10_isMeanOrRow 0 = .ok (.iload_n 0, 1) := by decide +kernel
theorem dX10_isMeanOrRow_1 : decode cX10_isMeanOrRow 1 = .ok (.ifCond .eq 22, 3) := by decide +kernel
theorem dX10_isMeanOrRow_4 : decode cX10_isMeanOrRow 4 = .ok (.iload_n 0, 1) := by decide +kernel
theorem dX10_isMeanOrRow_5 : decode cX10_isMeanOrRow 5 = .ok (.iconst 1, 1) := by decide +kernel
theorem dX10_isMeanOrRow_6 : decode cX10_isMeanOrRow 6 = .ok (.if_icmp .eq 17, 3) := by decide +kernel
theorem dX10_isMeanOrRow_9 : decode cX10_isMeanOrRow 9 = .ok (.iload_n 0, 1) := by decide +kernel
theorem dX10_isMeanOrRow_10 : decode cX10_isMeanOrRow 10 = .ok (.bipush 10, 2) := by decide +kernel
theorem dX10_isMeanOrRow_12 : decode cX10_isMeanOrRow 12 = .ok (.if_icmp .lt 15, 3) := by decide +kernel
theorem dX10_isMeanOrRow_15 : decode cX10_isMeanOrRow 15 = .ok (.iload_n 0, 1) := by decide +kernel
theorem dX10_isMeanOrRow_16 : decode cX10_isMeanOrRow 16 = .ok (.bipush 10, 2) := by decide +kernel
theorem dX10_isMeanOrRow_18 : decode cX10_isMeanOrRow 18 = .ok (.iload_n 1, 1) := by decide +kernel
theorem dX10_isMeanOrRow_19 : decode cX10_isMeanOrRow 19 = .ok (.iadd, 1) := by decide +kernel
theorem dX10_isMeanOrRow_20 : decode cX10_isMeanOrRow 20 = .ok (.if_icmp .ge 7, 3) := by decide +kernel
theorem dX10_isMeanOrRow_23 : decode cX10_isMeanOrRow 23 = .ok (.iconst 1, 1) := by decide +kernel
theorem dX10_isMeanOrRow_24 : decode cX10_isMeanOrRow 24 = .ok (.goto 4, 3) := by decide +kernel
theorem dX10_isMeanOrRow_27 : decode cX10_isMeanOrRow 27 = .ok (.iconst 0, 1) := by decide +kernel
theorem dX10_isMeanOrRow_28 : decode cX10_isMeanOrRow 28 = .ok (.ireturn, 1) := by decide +kernel
theorem dX10_isIn_0 : decode cX10_isIn 0 = .ok (.iload_n 0, 1) := by decide +kernel
theorem dX10_isIn_1 : decode cX10_isIn 1 = .ok (.iload_n 1, 1) := by decide +kernel
theorem dX10_isIn_2 : decode cX10_isIn 2 = .ok (.ishr, 1) := by decide +kernel
theorem dX10_isIn_3 : decode cX10_isIn 3 = .ok (.iconst 1, 1) := by decide +kernel
theorem dX10_isIn_4 : decode cX10_isIn 4 = .ok (.iand, 1) := by decide +kernel
theorem dX10_isIn_5 : decode cX10_isIn 5 = .ok (.ifCond .eq 7, 3) := by decide +kernel
theorem dX10_isIn_8 : decode cX10_isIn 8 = .ok (.iconst 1, 1) := by decide +kernel
theorem dX10_isIn_9 : decode cX10_isIn 9 = .ok (.goto 4, 3) := by decide +kernel
theorem dX10_isIn_12 : decode cX10_isIn 12 = .ok (.iconst 0, 1) := by decide +kernel
theorem dX10_isIn_13 : decode cX10_isIn 13 = .ok (.ireturn, 1) := by decide +kernel
theorem dX10_princeOf_0 : decode cX10_princeOf 0 = .ok (.iload_n 1, 1) := by decide +kernel
theorem dX10_princeOf_1 : decode cX10_princeOf 1 = .ok (.ifCond .lt 27, 3) := by decide +kernel
theorem dX10_princeOf_4 : decode cX10_princeOf 4 = .ok (.iload_n 1, 1) := by decide +kernel
theorem dX10_princeOf_5 : decode cX10_princeOf 5 = .ok (.aload_n 0, 1) := by decide +kernel
theorem dX10_princeOf_6 : decode cX10_princeOf 6 = .ok (.getfield 32, 3) := by decide +kernel
theorem dX10_princeOf_9 : decode cX10_princeOf 9 = .ok (.getfield 118, 3) := by decide +kernel
theorem dX10_princeOf_12 : decode cX10_princeOf 12 = .ok (.if_icmp .ge 16, 3) := by decide +kernel
theorem dX10_princeOf_15 : decode cX10_princeOf 15 = .ok (.iload_n 1, 1) := by decide +kernel
theorem dX10_princeOf_16 : decode cX10_princeOf 16 = .ok (.aload_n 0, 1) := by decide +kernel
theorem dX10_princeOf_17 : decode cX10_princeOf 17 = .ok (.getfield 25, 3) := by decide +kernel
theorem dX10_princeOf_20 : decode cX10_princeOf 20 = .ok (.arraylength, 1) := by decide +kernel
theorem dX10_princeOf_21 : decode cX10_princeOf 21 = .ok (.if_icmp .ge 7, 3) := by decide +kernel
theorem dX10_princeOf_24 : decode cX10_princeOf 24 = .ok (.iconst 1, 1) := by decide +kernel
theorem dX10_princeOf_25 : decode cX10_princeOf 25 = .ok (.goto 4, 3) := by decide +kernel
theorem dX10_princeOf_28 : decode cX10_princeOf 28 = .ok (.iconst 0, 1) := by decide +kernel
theorem dX10_princeOf_29 : decode cX10_princeOf 29 = .ok (.istore_n 2, 1) := by decide +kernel
theorem dX10_princeOf_30 : decode cX10_princeOf 30 = .ok (.iload_n 2, 1) := by decide +kernel
theorem dX10_princeOf_31 : decode cX10_princeOf 31 = .ok (.ifCond .eq 12, 3) := by decide +kernel
theorem dX10_princeOf_34 : decode cX10_princeOf 34 = .ok (.aload_n 0, 1) := by decide +kernel
theorem dX10_princeOf_35 : decode cX10_princeOf 35 = .ok (.getfield 25, 3) := by decide +kernel
theorem dX10_princeOf_38 : decode cX10_princeOf 38 = .ok (.iload_n 1, 1) := by decide +kernel
theorem dX10_princeOf_39 : decode cX10_princeOf 39 = .ok (.aaload, 1) := by decide +kernel
theorem dX10_princeOf_40 : decode cX10_princeOf 40 = .ok (.goto 4, 3) := by decide +kernel
theorem dX10_princeOf_43 : decode cX10_princeOf 43 = .ok (.aconst_null, 1) := by decide +kernel
theorem dX10_princeOf_44 : decode cX10_princeOf 44 = .ok (.areturn, 1) := by decide +kernel
theorem dX10_makePrince_0 : decode cX10_makePrince 0 = .ok (.iload_n 0, 1) := by decide +kernel
theorem dX10_makePrince_1 : decode cX10_makePrince 1 = .ok (.tableswitch 67 1 4 #[31, 40, 49, 58], 31) := by decide +kernel
theorem dX10_makePrince_32 : decode cX10_makePrince 32 = .ok (.new 295, 3) := by decide +kernel
theorem dX10_makePrince_35 : decode cX10_makePrince 35 = .ok (.dup, 1) := by decide +kernel
theorem dX10_makePrince_36 : decode cX10_makePrince 36 = .ok (.iload_n 1, 1) := by decide +kernel
theorem dX10_makePrince_37 : decode cX10_makePrince 37 = .ok (.invokespecial 297, 3) := by decide +kernel
theorem dX10_makePrince_40 : decode cX10_makePrince 40 = .ok (.areturn, 1) := by decide +kernel
theorem dX10_makePrince_41 : decode cX10_makePrince 41 = .ok (.new 299, 3) := by decide +kernel
theorem dX10_makePrince_44 : decode cX10_makePrince 44 = .ok (.dup, 1) := by decide +kernel
theorem dX10_makePrince_45 : decode cX10_makePrince 45 = .ok (.iload_n 1, 1) := by decide +kernel
theorem dX10_makePrince_46 : decode cX10_makePrince 46 = .ok (.invokespecial 301, 3) := by decide +kernel
theorem dX10_makePrince_49 : decode cX10_makePrince 49 = .ok (.areturn, 1) := by decide +kernel
theorem dX10_makePrince_50 : decode cX10_makePrince 50 = .ok (.new 302, 3) := by decide +kernel
theorem dX10_makePrince_53 : decode cX10_makePrince 53 = .ok (.dup, 1) := by decide +kernel
theorem dX10_makePrince_54 : decode cX10_makePrince 54 = .ok (.iload_n 1, 1) := by decide +kernel
theorem dX10_makePrince_55 : decode cX10_makePrince 55 = .ok (.invokespecial 304, 3) := by decide +kernel
theorem dX10_makePrince_58 : decode cX10_makePrince 58 = .ok (.areturn, 1) := by decide +kernel
theorem dX10_makePrince_59 : decode cX10_makePrince 59 = .ok (.new 305, 3) := by decide +kernel
theorem dX10_makePrince_62 : decode cX10_makePrince 62 = .ok (.dup, 1) := by decide +kernel
theorem dX10_makePrince_63 : decode cX10_makePrince 63 = .ok (.iload_n 1, 1) := by decide +kernel
theorem dX10_makePrince_64 : decode cX10_makePrince 64 = .ok (.invokespecial 307, 3) := by decide +kernel
theorem dX10_makePrince_67 : decode cX10_makePrince 67 = .ok (.areturn, 1) := by decide +kernel
theorem dX10_makePrince_68 : decode cX10_makePrince 68 = .ok (.new 23, 3) := by decide +kernel
theorem dX10_makePrince_71 : decode cX10_makePrince 71 = .ok (.dup, 1) := by decide +kernel
theorem dX10_makePrince_72 : decode cX10_makePrince 72 = .ok (.iload_n 1, 1) := by decide +kernel
theorem dX10_makePrince_73 : decode cX10_makePrince 73 = .ok (.invokespecial 308, 3) := by decide +kernel
theorem dX10_makePrince_76 : decode cX10_makePrince 76 = .ok (.areturn, 1) := by decide +kernel
theorem dX10_canBe_0 : decode cX10_canBe 0 = .ok (.iload_n 1, 1) := by decide +kernel
theorem dX10_canBe_1 : decode cX10_canBe 1 = .ok (.ifCond .eq 15, 3) := by decide +kernel
theorem dX10_canBe_4 : decode cX10_canBe 4 = .ok (.iload_n 0, 1) := by decide +kernel
theorem dX10_canBe_5 : decode cX10_canBe 5 = .ok (.ifCond .le 7, 3) := by decide +kernel
theorem dX10_canBe_8 : decode cX10_canBe 8 = .ok (.iconst 1, 1) := by decide +kernel
theorem dX10_canBe_9 : decode cX10_canBe 9 = .ok (.goto 18, 3) := by decide +kernel
theorem dX10_canBe_12 : decode cX10_canBe 12 = .ok (.iconst 0, 1) := by decide +kernel
theorem dX10_canBe_13 : decode cX10_canBe 13 = .ok (.goto 14, 3) := by decide +kernel
theorem dX10_canBe_16 : decode cX10_canBe 16 = .ok (.iload_n 0, 1) := by decide +kernel
theorem dX10_canBe_17 : decode cX10_canBe 17 = .ok (.bipush 10, 2) := by decide +kernel
theorem dX10_canBe_19 : decode cX10_canBe 19 = .ok (.if_icmp .ge 7, 3) := by decide +kernel
theorem dX10_canBe_22 : decode cX10_canBe 22 = .ok (.iconst 1, 1) := by decide +kernel
theorem dX10_canBe_23 : decode cX10_canBe 23 = .ok (.goto 4, 3) := by decide +kernel
theorem dX10_canBe_26 : decode cX10_canBe 26 = .ok (.iconst 0, 1) := by decide +kernel
theorem dX10_canBe_27 : decode cX10_canBe 27 = .ok (.ireturn, 1) := by decide +kernel
theorem dX10_fondAfterBlows_0 : decode cX10_fondAfterBlows 0 = .ok (.iload_n 1, 1) := by decide +kernel
theorem dX10_fondAfterBlows_1 : decode cX10_fondAfterBlows 1 = .ok (.iload_n 2, 1) := by decide +kernel
theorem dX10_fondAfterBlows_2 : decode cX10_fondAfterBlows 2 = .ok (.if_icmp .gt 14, 3) := by decide +kernel
theorem dX10_fondAfterBlows_5 : decode cX10_fondAfterBlows 5 = .ok (.bipush 9, 2) := by decide +kernel
theorem dX10_fondAfterBlows_7 : decode cX10_fondAfterBlows 7 = .ok (.iload_n 0, 1) := by decide +kernel
theorem dX10_fondAfterBlows_8 : decode cX10_fondAfterBlows 8 = .ok (.iconst 1, 1) := by decide +kernel
theorem dX10_fondAfterBlows_9 : decode cX10_fondAfterBlows 9 = .ok (.iadd, 1) := by decide +kernel
theorem dX10_fondAfterBlows_10 : decode cX10_fondAfterBlows 10 = .ok (.invokestatic 309, 3) := by decide +kernel
theorem dX10_fondAfterBlows_13 : decode cX10_fondAfterBlows 13 = .ok (.goto 10, 3) := by decide +kernel
theorem dX10_fondAfterBlows_16 : decode cX10_fondAfterBlows 16 = .ok (.iconst 0, 1) := by decide +kernel
theorem dX10_fondAfterBlows_17 : decode cX10_fondAfterBlows 17 = .ok (.iload_n 0, 1) := by decide +kernel
theorem dX10_fondAfterBlows_18 : decode cX10_fondAfterBlows 18 = .ok (.iconst 2, 1) := by decide +kernel
theorem dX10_fondAfterBlows_19 : decode cX10_fondAfterBlows 19 = .ok (.isub, 1) := by decide +kernel
theorem dX10_fondAfterBlows_20 : decode cX10_fondAfterBlows 20 = .ok (.invokestatic 314, 3) := by decide +kernel
theorem dX10_fondAfterBlows_23 : decode cX10_fondAfterBlows 23 = .ok (.ireturn, 1) := by decide +kernel
theorem dX10_setLesson_0 : decode cX10_setLesson 0 = .ok (.iload 4, 2) := by decide +kernel
theorem dX10_setLesson_2 : decode cX10_setLesson 2 = .ok (.ifCond .eq 12, 3) := by decide +kernel
theorem dX10_setLesson_5 : decode cX10_setLesson 5 = .ok (.aload_n 1, 1) := by decide +kernel
theorem dX10_setLesson_6 : decode cX10_setLesson 6 = .ok (.iload_n 2, 1) := by decide +kernel
theorem dX10_setLesson_7 : decode cX10_setLesson 7 = .ok (.iload_n 3, 1) := by decide +kernel
theorem dX10_setLesson_8 : decode cX10_setLesson 8 = .ok (.invokevirtual 317, 3) := by decide +kernel
theorem dX10_setLesson_11 : decode cX10_setLesson 11 = .ok (.goto 23, 3) := by decide +kernel
theorem dX10_setLesson_14 : decode cX10_setLesson 14 = .ok (.aload_n 1, 1) := by decide +kernel
theorem dX10_setLesson_15 : decode cX10_setLesson 15 = .ok (.iload_n 2, 1) := by decide +kernel
theorem dX10_setLesson_16 : decode cX10_setLesson 16 = .ok (.aload_n 0, 1) := by decide +kernel
theorem dX10_setLesson_17 : decode cX10_setLesson 17 = .ok (.getfield 19, 3) := by decide +kernel
theorem dX10_setLesson_20 : decode cX10_setLesson 20 = .ok (.iload_n 3, 1) := by decide +kernel
theorem dX10_setLesson_21 : decode cX10_setLesson 21 = .ok (.invokevirtual 100, 3) := by decide +kernel
theorem dX10_setLesson_24 : decode cX10_setLesson 24 = .ok (.aload_n 0, 1) := by decide +kernel
theorem dX10_setLesson_25 : decode cX10_setLesson 25 = .ok (.getfield 19, 3) := by decide +kernel
theorem dX10_setLesson_28 : decode cX10_setLesson 28 = .ok (.getfield 256, 3) := by decide +kernel
theorem dX10_setLesson_31 : decode cX10_setLesson 31 = .ok (.invokevirtual 320, 3) := by decide +kernel
theorem dX10_setLesson_34 : decode cX10_setLesson 34 = .ok (.return_, 1) := by decide +kernel
theorem dX10_bestMatch_0 : decode cX10_bestMatch 0 = .ok (.iconst 0, 1) := by decide +kernel
theorem dX10_bestMatch_1 : decode cX10_bestMatch 1 = .ok (.istore_n 2, 1) := by decide +kernel
theorem dX10_bestMatch_2 : decode cX10_bestMatch 2 = .ok (.aload_n 0, 1) := by decide +kernel
theorem dX10_bestMatch_3 : decode cX10_bestMatch 3 = .ok (.iload_n 1, 1) := by decide +kernel
theorem dX10_bestMatch_4 : decode cX10_bestMatch 4 = .ok (.iload_n 2, 1) := by decide +kernel
theorem dX10_bestMatch_5 : decode cX10_bestMatch 5 = .ok (.invokevirtual 218, 3) := by decide +kernel
theorem dX10_bestMatch_8 : decode cX10_bestMatch 8 = .ok (.istore_n 3, 1) := by decide +kernel
theorem dX10_bestMatch_9 : decode cX10_bestMatch 9 = .ok (.iconst 3, 1) := by decide +kernel
theorem dX10_bestMatch_10 : decode cX10_bestMatch 10 = .ok (.istore 4, 2) := by decide +kernel
theorem dX10_bestMatch_12 : decode cX10_bestMatch 12 = .ok (.iload 4, 2) := by decide +kernel
theorem dX10_bestMatch_14 : decode cX10_bestMatch 14 = .ok (.getstatic 210, 3) := by decide +kernel
theorem dX10_bestMatch_17 : decode cX10_bestMatch 17 = .ok (.arraylength, 1) := by decide +kernel
theorem dX10_bestMatch_18 : decode cX10_bestMatch 18 = .ok (.if_icmp .ge 30, 3) := by decide +kernel
theorem dX10_bestMatch_21 : decode cX10_bestMatch 21 = .ok (.aload_n 0, 1) := by decide +kernel
theorem dX10_bestMatch_22 : decode cX10_bestMatch 22 = .ok (.iload_n 1, 1) := by decide +kernel
theorem dX10_bestMatch_23 : decode cX10_bestMatch 23 = .ok (.iload 4, 2) := by decide +kernel
theorem dX10_bestMatch_25 : decode cX10_bestMatch 25 = .ok (.invokevirtual 218, 3) := by decide +kernel
theorem dX10_bestMatch_28 : decode cX10_bestMatch 28 = .ok (.istore 5, 2) := by decide +kernel
theorem dX10_bestMatch_30 : decode cX10_bestMatch 30 = .ok (.iload 5, 2) := by decide +kernel
theorem dX10_bestMatch_32 : decode cX10_bestMatch 32 = .ok (.iload_n 3, 1) := by decide +kernel
theorem dX10_bestMatch_33 : decode cX10_bestMatch 33 = .ok (.if_icmp .ge 9, 3) := by decide +kernel
theorem dX10_bestMatch_36 : decode cX10_bestMatch 36 = .ok (.iload 5, 2) := by decide +kernel
theorem dX10_bestMatch_38 : decode cX10_bestMatch 38 = .ok (.istore_n 3, 1) := by decide +kernel
theorem dX10_bestMatch_39 : decode cX10_bestMatch 39 = .ok (.iload 4, 2) := by decide +kernel
theorem dX10_bestMatch_41 : decode cX10_bestMatch 41 = .ok (.istore_n 2, 1) := by decide +kernel
theorem dX10_bestMatch_42 : decode cX10_bestMatch 42 = .ok (.iinc 4 3, 3) := by decide +kernel
theorem dX10_bestMatch_45 : decode cX10_bestMatch 45 = .ok (.goto (-33), 3) := by decide +kernel
theorem dX10_bestMatch_48 : decode cX10_bestMatch 48 = .ok (.iload_n 2, 1) := by decide +kernel
theorem dX10_bestMatch_49 : decode cX10_bestMatch 49 = .ok (.ireturn, 1) := by decide +kernel
theorem dX10_failTenths_0 : decode cX10_failTenths 0 = .ok (.iconst 0, 1) := by decide +kernel
theorem dX10_failTenths_1 : decode cX10_failTenths 1 = .ok (.istore_n 3, 1) := by decide +kernel
theorem dX10_failTenths_2 : decode cX10_failTenths 2 = .ok (.iconst 0, 1) := by decide +kernel
theorem dX10_failTenths_3 : decode cX10_failTenths 3 = .ok (.istore 4, 2) := by decide +kernel
theorem dX10_failTenths_5 : decode cX10_failTenths 5 = .ok (.iload 4, 2) := by decide +kernel
theorem dX10_failTenths_7 : decode cX10_failTenths 7 = .ok (.aload_n 0, 1) := by decide +kernel
theorem dX10_failTenths_8 : decode cX10_failTenths 8 = .ok (.getfield 32, 3) := by decide +kernel
theorem dX10_failTenths_11 : decode cX10_failTenths 11 = .ok (.getfield 118, 3) := by decide +kernel
theorem dX10_failTenths_14 : decode cX10_failTenths 14 = .ok (.if_icmp .ge 61, 3) := by decide +kernel
theorem dX10_failTenths_17 : decode cX10_failTenths 17 = .ok (.aload_n 0, 1) := by decide +kernel
theorem dX10_failTenths_18 : decode cX10_failTenths 18 = .ok (.iload 4, 2) := by decide +kernel
theorem dX10_failTenths_20 : decode cX10_failTenths 20 = .ok (.invokevirtual 127, 3) := by decide +kernel
theorem dX10_failTenths_23 : decode cX10_failTenths 23 = .ok (.astore 5, 2) := by decide +kernel
theorem dX10_failTenths_25 : decode cX10_failTenths 25 = .ok (.aload 5, 2) := by decide +kernel
theorem dX10_failTenths_27 : decode cX10_failTenths 27 = .ok (.ifnull 42, 3) := by decide +kernel
theorem dX10_failTenths_30 : decode cX10_failTenths 30 = .ok (.aload_n 0, 1) := by decide +kernel
theorem dX10_failTenths_31 : decode cX10_failTenths 31 = .ok (.getfield 32, 3) := by decide +kernel
theorem dX10_failTenths_34 : decode cX10_failTenths 34 = .ok (.iload 4, 2) := by decide +kernel
theorem dX10_failTenths_36 : decode cX10_failTenths 36 = .ok (.getstatic 210, 3) := by decide +kernel
theorem dX10_failTenths_39 : decode cX10_failTenths 39 = .ok (.iload_n 2, 1) := by decide +kernel
theorem dX10_failTenths_40 : decode cX10_failTenths 40 = .ok (.iload 4, 2) := by decide +kernel
theorem dX10_failTenths_42 : decode cX10_failTenths 42 = .ok (.iadd, 1) := by decide +kernel
theorem dX10_failTenths_43 : decode cX10_failTenths 43 = .ok (.invokestatic 214, 3) := by decide +kernel
theorem dX10_failTenths_46 : decode cX10_failTenths 46 = .ok (.invokevirtual 149, 3) := by decide +kernel
theorem dX10_failTenths_49 : decode cX10_failTenths 49 = .ok (.istore 6, 2) := by decide +kernel
theorem dX10_failTenths_51 : decode cX10_failTenths 51 = .ok (.iload_n 3, 1) := by decide +kernel
theorem dX10_failTenths_52 : decode cX10_failTenths 52 = .ok (.bipush 10, 2) := by decide +kernel
theorem dX10_failTenths_54 : decode cX10_failTenths 54 = .ok (.aload_n 0, 1) := by decide +kernel
theorem dX10_failTenths_55 : decode cX10_failTenths 55 = .ok (.getfield 19, 3) := by decide +kernel
theorem dX10_failTenths_58 : decode cX10_failTenths 58 = .ok (.aload 5, 2) := by decide +kernel
theorem dX10_failTenths_60 : decode cX10_failTenths 60 = .ok (.iload 6, 2) := by decide +kernel
theorem dX10_failTenths_62 : decode cX10_failTenths 62 = .ok (.iload_n 1, 1) := by decide +kernel
theorem dX10_failTenths_63 : decode cX10_failTenths 63 = .ok (.invokevirtual 164, 3) := by decide +kernel
theorem dX10_failTenths_66 : decode cX10_failTenths 66 = .ok (.isub, 1) := by decide +kernel
theorem dX10_failTenths_67 : decode cX10_failTenths 67 = .ok (.iadd, 1) := by decide +kernel
theorem dX10_failTenths_68 : decode cX10_failTenths 68 = .ok (.istore_n 3, 1) := by decide +kernel
theorem dX10_failTenths_69 : decode cX10_failTenths 69 = .ok (.iinc 4 1, 3) := by decide +kernel
theorem dX10_failTenths_72 : decode cX10_failTenths 72 = .ok (.goto (-67), 3) := by decide +kernel
theorem dX10_failTenths_75 : decode cX10_failTenths 75 = .ok (.iload_n 3, 1) := by decide +kernel
theorem dX10_failTenths_76 : decode cX10_failTenths 76 = .ok (.ireturn, 1) := by decide +kernel
theorem dX10_agreesWithHeard_0 : decode cX10_agreesWithHeard 0 = .ok (.iconst 0, 1) := by decide +kernel
theorem dX10_agreesWithHeard_1 : decode cX10_agreesWithHeard 1 = .ok (.istore 4, 2) := by decide +kernel
theorem dX10_agreesWithHeard_3 : decode cX10_agreesWithHeard 3 = .ok (.iload 4, 2) := by decide +kernel
theorem dX10_agreesWithHeard_5 : decode cX10_agreesWithHeard 5 = .ok (.aload_n 0, 1) := by decide +kernel
theorem dX10_agreesWithHeard_6 : decode cX10_agreesWithHeard 6 = .ok (.getfield 32, 3) := by decide +kernel
theorem dX10_agreesWithHeard_9 : decode cX10_agreesWithHeard 9 = .ok (.getfield 232, 3) := by decide +kernel
theorem dX10_agreesWithHeard_12 : decode cX10_agreesWithHeard 12 = .ok (.if_icmp .ge 78, 3) := by decide +kernel
theorem dX10_agreesWithHeard_15 : decode cX10_agreesWithHeard 15 = .ok (.aload_n 0, 1) := by decide +kernel
theorem dX10_agreesWithHeard_16 : decode cX10_agreesWithHeard 16 = .ok (.getfield 32, 3) := by decide +kernel
theorem dX10_agreesWithHeard_19 : decode cX10_agreesWithHeard 19 = .ok (.getfield 323, 3) := by decide +kernel
theorem dX10_agreesWithHeard_22 : decode cX10_agreesWithHeard 22 = .ok (.iload 4, 2) := by decide +kernel
theorem dX10_agreesWithHeard_24 : decode cX10_agreesWithHeard 24 = .ok (.invokestatic 214, 3) := by decide +kernel
theorem dX10_agreesWithHeard_27 : decode cX10_agreesWithHeard 27 = .ok (.iload_n 1, 1) := by decide +kernel
theorem dX10_agreesWithHeard_28 : decode cX10_agreesWithHeard 28 = .ok (.if_icmp .ne 56, 3) := by decide +kernel
theorem dX10_agreesWithHeard_31 : decode cX10_agreesWithHeard 31 = .ok (.aload_n 0, 1) := by decide +kernel
theorem dX10_agreesWithHeard_32 : decode cX10_agreesWithHeard 32 = .ok (.getfield 19, 3) := by decide +kernel
theorem dX10_agreesWithHeard_35 : decode cX10_agreesWithHeard 35 = .ok (.aload_n 2, 1) := by decide +kernel
theorem dX10_agreesWithHeard_36 : decode cX10_agreesWithHeard 36 = .ok (.iload_n 3, 1) := by decide +kernel
theorem dX10_agreesWithHeard_37 : decode cX10_agreesWithHeard 37 = .ok (.aload_n 0, 1) := by decide +kernel
theorem dX10_agreesWithHeard_38 : decode cX10_agreesWithHeard 38 = .ok (.getfield 32, 3) := by decide +kernel
theorem dX10_agreesWithHeard_41 : decode cX10_agreesWithHeard 41 = .ok (.getfield 326, 3) := by decide +kernel
theorem dX10_agreesWithHeard_44 : decode cX10_agreesWithHeard 44 = .ok (.iload 4, 2) := by decide +kernel
theorem dX10_agreesWithHeard_46 : decode cX10_agreesWithHeard 46 = .ok (.invokestatic 214, 3) := by decide +kernel
theorem dX10_agreesWithHeard_49 : decode cX10_agreesWithHeard 49 = .ok (.invokevirtual 164, 3) := by decide +kernel
theorem dX10_agreesWithHeard_52 : decode cX10_agreesWithHeard 52 = .ok (.istore 5, 2) := by decide +kernel
theorem dX10_agreesWithHeard_54 : decode cX10_agreesWithHeard 54 = .ok (.iload 5, 2) := by decide +kernel
theorem dX10_agreesWithHeard_56 : decode cX10_agreesWithHeard 56 = .ok (.aload_n 0, 1) := by decide +kernel
theorem dX10_agreesWithHeard_57 : decode cX10_agreesWithHeard 57 = .ok (.getfield 32, 3) := by decide +kernel
theorem dX10_agreesWithHeard_60 : decode cX10_agreesWithHeard 60 = .ok (.getfield 329, 3) := by decide +kernel
theorem dX10_agreesWithHeard_63 : decode cX10_agreesWithHeard 63 = .ok (.iload 4, 2) := by decide +kernel
theorem dX10_agreesWithHeard_65 : decode cX10_agreesWithHeard 65 = .ok (.invokestatic 214, 3) := by decide +kernel
theorem dX10_agreesWithHeard_68 : decode cX10_agreesWithHeard 68 = .ok (.ifCond .eq 7, 3) := by decide +kernel
theorem dX10_agreesWithHeard_71 : decode cX10_agreesWithHeard 71 = .ok (.iconst 1, 1) := by decide +kernel
theorem dX10_agreesWithHeard_72 : decode cX10_agreesWithHeard 72 = .ok (.goto 4, 3) := by decide +kernel
theorem dX10_agreesWithHeard_75 : decode cX10_agreesWithHeard 75 = .ok (.iconst 0, 1) := by decide +kernel
theorem dX10_agreesWithHeard_76 : decode cX10_agreesWithHeard 76 = .ok (.invokestatic 172, 3) := by decide +kernel
theorem dX10_agreesWithHeard_79 : decode cX10_agreesWithHeard 79 = .ok (.ifCond .ne 5, 3) := by decide +kernel
theorem dX10_agreesWithHeard_82 : decode cX10_agreesWithHeard 82 = .ok (.iconst 0, 1) := by decide +kernel
theorem dX10_agreesWithHeard_83 : decode cX10_agreesWithHeard 83 = .ok (.ireturn, 1) := by decide +kernel
theorem dX10_agreesWithHeard_84 : decode cX10_agreesWithHeard 84 = .ok (.iinc 4 1, 3) := by decide +kernel
theorem dX10_agreesWithHeard_87 : decode cX10_agreesWithHeard 87 = .ok (.goto (-84), 3) := by decide +kernel
theorem dX10_agreesWithHeard_90 : decode cX10_agreesWithHeard 90 = .ok (.iconst 1, 1) := by decide +kernel
theorem dX10_agreesWithHeard_91 : decode cX10_agreesWithHeard 91 = .ok (.ireturn, 1) := by decide +kernel
theorem dX10_drawLessons_0 : decode cX10_drawLessons 0 = .ok (.aload_n 0, 1) := by decide +kernel
theorem dX10_drawLessons_1 : decode cX10_drawLessons 1 = .ok (.iload_n 1, 1) := by decide +kernel
theorem dX10_drawLessons_2 : decode cX10_drawLessons 2 = .ok (.invokevirtual 127, 3) := by decide +kernel
theorem dX10_drawLessons_5 : decode cX10_drawLessons 5 = .ok (.astore_n 3, 1) := by decide +kernel
theorem dX10_drawLessons_6 : decode cX10_drawLessons 6 = .ok (.iload_n 2, 1) := by decide +kernel
theorem dX10_drawLessons_7 : decode cX10_drawLessons 7 = .ok (.istore 4, 2) := by decide +kernel
theorem dX10_drawLessons_9 : decode cX10_drawLessons 9 = .ok (.iconst 0, 1) := by decide +kernel
theorem dX10_drawLessons_10 : decode cX10_drawLessons 10 = .ok (.istore 5, 2) := by decide +kernel
theorem dX10_drawLessons_12 : decode cX10_drawLessons 12 = .ok (.aload_n 3, 1) := by decide +kernel
theorem dX10_drawLessons_13 : decode cX10_drawLessons 13 = .ok (.ifnull 98, 3) := by decide +kernel
theorem dX10_drawLessons_16 : decode cX10_drawLessons 16 = .ok (.iload 5, 2) := by decide +kernel
theorem dX10_drawLessons_18 : decode cX10_drawLessons 18 = .ok (.aload_n 0, 1) := by decide +kernel
theorem dX10_drawLessons_19 : decode cX10_drawLessons 19 = .ok (.getfield 19, 3) := by decide +kernel
theorem dX10_drawLessons_22 : decode cX10_drawLessons 22 = .ok (.getfield 89, 3) := by decide +kernel
theorem dX10_drawLessons_25 : decode cX10_drawLessons 25 = .ok (.if_icmp .ge 86, 3) := by decide +kernel
theorem dX10_drawLessons_28 : decode cX10_drawLessons 28 = .ok (.aload_n 0, 1) := by decide +kernel
theorem dX10_drawLessons_29 : decode cX10_drawLessons 29 = .ok (.getfield 39, 3) := by decide +kernel
theorem dX10_drawLessons_32 : decode cX10_drawLessons 32 = .ok (.iload_n 1, 1) := by decide +kernel
theorem dX10_drawLessons_33 : decode cX10_drawLessons 33 = .ok (.invokevirtual 146, 3) := by decide +kernel
theorem dX10_drawLessons_36 : decode cX10_drawLessons 36 = .ok (.iload 5, 2) := by decide +kernel
theorem dX10_drawLessons_38 : decode cX10_drawLessons 38 = .ok (.invokestatic 168, 3) := by decide +kernel
theorem dX10_drawLessons_41 : decode cX10_drawLessons 41 = .ok (.ifCond .ne 64, 3) := by decide +kernel
theorem dX10_drawLessons_44 : decode cX10_drawLessons 44 = .ok (.iload 4, 2) := by decide +kernel
theorem dX10_drawLessons_46 : decode cX10_drawLessons 46 = .ok (.invokestatic 332, 3) := by decide +kernel
theorem dX10_drawLessons_49 : decode cX10_drawLessons 49 = .ok (.istore 4, 2) := by decide +kernel
theorem dX10_drawLessons_51 : decode cX10_drawLessons 51 = .ok (.iload 4, 2) := by decide +kernel
theorem dX10_drawLessons_53 : decode cX10_drawLessons 53 = .ok (.ldc_w 335, 3) := by decide +kernel
theorem dX10_drawLessons_56 : decode cX10_drawLessons 56 = .ok (.idiv, 1) := by decide +kernel
theorem dX10_drawLessons_57 : decode cX10_drawLessons 57 = .ok (.bipush 10, 2) := by decide +kernel
theorem dX10_drawLessons_59 : decode cX10_drawLessons 59 = .ok (.irem, 1) := by decide +kernel
theorem dX10_drawLessons_60 : decode cX10_drawLessons 60 = .ok (.istore 6, 2) := by decide +kernel
theorem dX10_drawLessons_62 : decode cX10_drawLessons 62 = .ok (.aload_n 0, 1) := by decide +kernel
theorem dX10_drawLessons_63 : decode cX10_drawLessons 63 = .ok (.getfield 19, 3) := by decide +kernel
theorem dX10_drawLessons_66 : decode cX10_drawLessons 66 = .ok (.aload_n 3, 1) := by decide +kernel
theorem dX10_drawLessons_67 : decode cX10_drawLessons 67 = .ok (.aload_n 0, 1) := by decide +kernel
theorem dX10_drawLessons_68 : decode cX10_drawLessons 68 = .ok (.getfield 39, 3) := by decide +kernel
theorem dX10_drawLessons_71 : decode cX10_drawLessons 71 = .ok (.iload_n 1, 1) := by decide +kernel
theorem dX10_drawLessons_72 : decode cX10_drawLessons 72 = .ok (.invokevirtual 140, 3) := by decide +kernel
theorem dX10_drawLessons_75 : decode cX10_drawLessons 75 = .ok (.iload 5, 2) := by decide +kernel
theorem dX10_drawLessons_77 : decode cX10_drawLessons 77 = .ok (.invokevirtual 164, 3) := by decide +kernel
theorem dX10_drawLessons_80 : decode cX10_drawLessons 80 = .ok (.istore 7, 2) := by decide +kernel
theorem dX10_drawLessons_82 : decode cX10_drawLessons 82 = .ok (.aload_n 0, 1) := by decide +kernel
theorem dX10_drawLessons_83 : decode cX10_drawLessons 83 = .ok (.aload_n 0, 1) := by decide +kernel
theorem dX10_drawLessons_84 : decode cX10_drawLessons 84 = .ok (.getfield 39, 3) := by decide +kernel
theorem dX10_drawLessons_87 : decode cX10_drawLessons 87 = .ok (.iload_n 1, 1) := by decide +kernel
theorem dX10_drawLessons_88 : decode cX10_drawLessons 88 = .ok (.iload 5, 2) := by decide +kernel
theorem dX10_drawLessons_90 : decode cX10_drawLessons 90 = .ok (.iload 6, 2) := by decide +kernel
theorem dX10_drawLessons_92 : decode cX10_drawLessons 92 = .ok (.iload 7, 2) := by decide +kernel
theorem dX10_drawLessons_94 : decode cX10_drawLessons 94 = .ok (.if_icmp .ge 7, 3) := by decide +kernel
theorem dX10_drawLessons_97 : decode cX10_drawLessons 97 = .ok (.iconst 1, 1) := by decide +kernel
theorem dX10_drawLessons_98 : decode cX10_drawLessons 98 = .ok (.goto 4, 3) := by decide +kernel
theorem dX10_drawLessons_101 : decode cX10_drawLessons 101 = .ok (.iconst 0, 1) := by decide +kernel
theorem dX10_drawLessons_102 : decode cX10_drawLessons 102 = .ok (.invokevirtual 176, 3) := by decide +kernel
theorem dX10_drawLessons_105 : decode cX10_drawLessons 105 = .ok (.iinc 5 1, 3) := by decide +kernel
theorem dX10_drawLessons_108 : decode cX10_drawLessons 108 = .ok (.goto (-96), 3) := by decide +kernel
theorem dX10_drawLessons_111 : decode cX10_drawLessons 111 = .ok (.iload 4, 2) := by decide +kernel
theorem dX10_drawLessons_113 : decode cX10_drawLessons 113 = .ok (.ireturn, 1) := by decide +kernel
theorem dX10_nextSeed_0 : decode cX10_nextSeed 0 = .ok (.ldc2_w 336, 3) := by decide +kernel
theorem dX10_nextSeed_3 : decode cX10_nextSeed 3 = .ok (.iload_n 0, 1) := by decide +kernel
theorem dX10_nextSeed_4 : decode cX10_nextSeed 4 = .ok (.i2l, 1) := by decide +kernel
theorem dX10_nextSeed_5 : decode cX10_nextSeed 5 = .ok (.lmul, 1) := by decide +kernel
theorem dX10_nextSeed_6 : decode cX10_nextSeed 6 = .ok (.ldc2_w 338, 3) := by decide +kernel
theorem dX10_nextSeed_9 : decode cX10_nextSeed 9 = .ok (.ladd, 1) := by decide +kernel
theorem dX10_nextSeed_10 : decode cX10_nextSeed 10 = .ok (.ldc2_w 340, 3) := by decide +kernel
theorem dX10_nextSeed_13 : decode cX10_nextSeed 13 = .ok (.land, 1) := by decide +kernel
theorem dX10_nextSeed_14 : decode cX10_nextSeed 14 = .ok (.l2i, 1) := by decide +kernel
theorem dX10_nextSeed_15 : decode cX10_nextSeed 15 = .ok (.ireturn, 1) := by decide +kernel
theorem dX10_inLowestTerms_0 : decode cX10_inLowestTerms 0 = .ok (.iload 4, 2) := by decide +kernel
theorem dX10_inLowestTerms_2 : decode cX10_inLowestTerms 2 = .ok (.ifCond .ne 7, 3) := by decide +kernel
theorem dX10_inLowestTerms_5 : decode cX10_inLowestTerms 5 = .ok (.lload_n 0, 1) := by decide +kernel
theorem dX10_inLowestTerms_6 : decode cX10_inLowestTerms 6 = .ok (.goto 4, 3) := by decide +kernel
theorem dX10_inLowestTerms_9 : decode cX10_inLowestTerms 9 = .ok (.lload_n 2, 1) := by decide +kernel
theorem dX10_inLowestTerms_10 : decode cX10_inLowestTerms 10 = .ok (.lstore 5, 2) := by decide +kernel
theorem dX10_inLowestTerms_12 : decode cX10_inLowestTerms 12 = .ok (.lload_n 0, 1) := by decide +kernel
theorem dX10_inLowestTerms_13 : decode cX10_inLowestTerms 13 = .ok (.lload_n 2, 1) := by decide +kernel
theorem dX10_inLowestTerms_14 : decode cX10_inLowestTerms 14 = .ok (.invokestatic 342, 3) := by decide +kernel
theorem dX10_inLowestTerms_17 : decode cX10_inLowestTerms 17 = .ok (.lstore 7, 2) := by decide +kernel
theorem dX10_inLowestTerms_19 : decode cX10_inLowestTerms 19 = .ok (.lload 7, 2) := by decide +kernel
theorem dX10_inLowestTerms_21 : decode cX10_inLowestTerms 21 = .ok (.lconst 0, 1) := by decide +kernel
theorem dX10_inLowestTerms_22 : decode cX10_inLowestTerms 22 = .ok (.lcmp, 1) := by decide +kernel
theorem dX10_inLowestTerms_23 : decode cX10_inLowestTerms 23 = .ok (.ifCond .ne 8, 3) := by decide +kernel
theorem dX10_inLowestTerms_26 : decode cX10_inLowestTerms 26 = .ok (.lload 5, 2) := by decide +kernel
theorem dX10_inLowestTerms_28 : decode cX10_inLowestTerms 28 = .ok (.goto 8, 3) := by decide +kernel
theorem dX10_inLowestTerms_31 : decode cX10_inLowestTerms 31 = .ok (.lload 5, 2) := by decide +kernel
theorem dX10_inLowestTerms_33 : decode cX10_inLowestTerms 33 = .ok (.lload 7, 2) := by decide +kernel
theorem dX10_inLowestTerms_35 : decode cX10_inLowestTerms 35 = .ok (.ldiv, 1) := by decide +kernel
theorem dX10_inLowestTerms_36 : decode cX10_inLowestTerms 36 = .ok (.lreturn, 1) := by decide +kernel
theorem dX10_commonDivisor_0 : decode cX10_commonDivisor 0 = .ok (.lload_n 0, 1) := by decide +kernel
theorem dX10_commonDivisor_1 : decode cX10_commonDivisor 1 = .ok (.lstore 4, 2) := by decide +kernel
theorem dX10_commonDivisor_3 : decode cX10_commonDivisor 3 = .ok (.lload_n 2, 1) := by decide +kernel
theorem dX10_commonDivisor_4 : decode cX10_commonDivisor 4 = .ok (.lstore 6, 2) := by decide +kernel
theorem dX10_commonDivisor_6 : decode cX10_commonDivisor 6 = .ok (.iconst 0, 1) := by decide +kernel
theorem dX10_commonDivisor_7 : decode cX10_commonDivisor 7 = .ok (.istore 8, 2) := by decide +kernel
theorem dX10_commonDivisor_9 : decode cX10_commonDivisor 9 = .ok (.iload 8, 2) := by decide +kernel
theorem dX10_commonDivisor_11 : decode cX10_commonDivisor 11 = .ok (.bipush 100, 2) := by decide +kernel
theorem dX10_commonDivisor_13 : decode cX10_commonDivisor 13 = .ok (.if_icmp .ge 31, 3) := by decide +kernel
theorem dX10_commonDivisor_16 : decode cX10_commonDivisor 16 = .ok (.lload 6, 2) := by decide +kernel
theorem dX10_commonDivisor_18 : decode cX10_commonDivisor 18 = .ok (.lconst 0, 1) := by decide +kernel
theorem dX10_commonDivisor_19 : decode cX10_commonDivisor 19 = .ok (.lcmp, 1) := by decide +kernel
theorem dX10_commonDivisor_20 : decode cX10_commonDivisor 20 = .ok (.ifCond .eq 24, 3) := by decide +kernel
theorem dX10_commonDivisor_23 : decode cX10_commonDivisor 23 = .ok (.lload 4, 2) := by decide +kernel
theorem dX10_commonDivisor_25 : decode cX10_commonDivisor 25 = .ok (.lload 6, 2) := by decide +kernel
theorem dX10_commonDivisor_27 : decode cX10_commonDivisor 27 = .ok (.lrem, 1) := by decide +kernel
theorem dX10_commonDivisor_28 : decode cX10_commonDivisor 28 = .ok (.lstore 9, 2) := by decide +kernel
theorem dX10_commonDivisor_30 : decode cX10_commonDivisor 30 = .ok (.lload 6, 2) := by decide +kernel
theorem dX10_commonDivisor_32 : decode cX10_commonDivisor 32 = .ok (.lstore 4, 2) := by decide +kernel
theorem dX10_commonDivisor_34 : decode cX10_commonDivisor 34 = .ok (.lload 9, 2) := by decide +kernel
theorem dX10_commonDivisor_36 : decode cX10_commonDivisor 36 = .ok (.lstore 6, 2) := by decide +kernel
theorem dX10_commonDivisor_38 : decode cX10_commonDivisor 38 = .ok (.iinc 8 1, 3) := by decide +kernel
theorem dX10_commonDivisor_41 : decode cX10_commonDivisor 41 = .ok (.goto (-32), 3) := by decide +kernel
theorem dX10_commonDivisor_44 : decode cX10_commonDivisor 44 = .ok (.lload 4, 2) := by decide +kernel
theorem dX10_commonDivisor_46 : decode cX10_commonDivisor 46 = .ok (.lreturn, 1) := by decide +kernel
theorem dX10_at_0 : decode cX10_at 0 = .ok (.iload_n 1, 1) := by decide +kernel
theorem dX10_at_1 : decode cX10_at 1 = .ok (.ifCond .lt 15, 3) := by decide +kernel
theorem dX10_at_4 : decode cX10_at 4 = .ok (.iload_n 1, 1) := by decide +kernel
theorem dX10_at_5 : decode cX10_at 5 = .ok (.aload_n 0, 1) := by decide +kernel
theorem dX10_at_6 : decode cX10_at 6 = .ok (.arraylength, 1) := by decide +kernel
theorem dX10_at_7 : decode cX10_at 7 = .ok (.if_icmp .ge 9, 3) := by decide +kernel
theorem dX10_at_10 : decode cX10_at 10 = .ok (.aload_n 0, 1) := by decide +kernel
theorem dX10_at_11 : decode cX10_at 11 = .ok (.iload_n 1, 1) := by decide +kernel
theorem dX10_at_12 : decode cX10_at 12 = .ok (.iaload, 1) := by decide +kernel
theorem dX10_at_13 : decode cX10_at 13 = .ok (.goto 4, 3) := by decide +kernel
theorem dX10_at_16 : decode cX10_at 16 = .ok (.iconst 0, 1) := by decide +kernel
theorem dX10_at_17 : decode cX10_at 17 = .ok (.ireturn, 1) := by decide +kernel
theorem dX10_put_0 : decode cX10_put 0 = .ok (.iload_n 1, 1) := by decide +kernel
theorem dX10_put_1 : decode cX10_put 1 = .ok (.ifCond .lt 13, 3) := by decide +kernel
theorem dX10_put_4 : decode cX10_put 4 = .ok (.iload_n 1, 1) := by decide +kernel
theorem dX10_put_5 : decode cX10_put 5 = .ok (.aload_n 0, 1) := by decide +kernel
theorem dX10_put_6 : decode cX10_put 6 = .ok (.arraylength, 1) := by decide +kernel
theorem dX10_put_7 : decode cX10_put 7 = .ok (.if_icmp .ge 7, 3) := by decide +kernel
theorem dX10_put_10 : decode cX10_put 10 = .ok (.aload_n 0, 1) := by decide +kernel
theorem dX10_put_11 : decode cX10_put 11 = .ok (.iload_n 1, 1) := by decide +kernel
theorem dX10_put_12 : decode cX10_put 12 = .ok (.iload_n 2, 1) := by decide +kernel
theorem dX10_put_13 : decode cX10_put 13 = .ok (.iastore, 1) := by decide +kernel
theorem dX10_put_14 : decode cX10_put 14 = .ok (.return_, 1) := by decide +kernel
theorem dX10_copy_0 : decode cX10_copy 0 = .ok (.iconst 0, 1) := by decide +kernel
theorem dX10_copy_1 : decode cX10_copy 1 = .ok (.istore_n 2, 1) := by decide +kernel
theorem dX10_copy_2 : decode cX10_copy 2 = .ok (.iload_n 2, 1) := by decide +kernel
theorem dX10_copy_3 : decode cX10_copy 3 = .ok (.aload_n 0, 1) := by decide +kernel
theorem dX10_copy_4 : decode cX10_copy 4 = .ok (.arraylength, 1) := by decide +kernel
theorem dX10_copy_5 : decode cX10_copy 5 = .ok (.if_icmp .ge 21, 3) := by decide +kernel
theorem dX10_copy_8 : decode cX10_copy 8 = .ok (.iload_n 2, 1) := by decide +kernel
theorem dX10_copy_9 : decode cX10_copy 9 = .ok (.aload_n 1, 1) := by decide +kernel
theorem dX10_copy_10 : decode cX10_copy 10 = .ok (.arraylength, 1) := by decide +kernel
theorem dX10_copy_11 : decode cX10_copy 11 = .ok (.if_icmp .ge 15, 3) := by decide +kernel
theorem dX10_copy_14 : decode cX10_copy 14 = .ok (.aload_n 1, 1) := by decide +kernel
theorem dX10_copy_15 : decode cX10_copy 15 = .ok (.iload_n 2, 1) := by decide +kernel
theorem dX10_copy_16 : decode cX10_copy 16 = .ok (.aload_n 0, 1) := by decide +kernel
theorem dX10_copy_17 : decode cX10_copy 17 = .ok (.iload_n 2, 1) := by decide +kernel
theorem dX10_copy_18 : decode cX10_copy 18 = .ok (.iaload, 1) := by decide +kernel
theorem dX10_copy_19 : decode cX10_copy 19 = .ok (.iastore, 1) := by decide +kernel
theorem dX10_copy_20 : decode cX10_copy 20 = .ok (.iinc 2 1, 3) := by decide +kernel
theorem dX10_copy_23 : decode cX10_copy 23 = .ok (.goto (-21), 3) := by decide +kernel
theorem dX10_copy_26 : decode cX10_copy 26 = .ok (.return_, 1) := by decide +kernel
theorem dX10_fill_0 : decode cX10_fill 0 = .ok (.iconst 0, 1) := by decide +kernel
theorem dX10_fill_1 : decode cX10_fill 1 = .ok (.istore_n 2, 1) := by decide +kernel
theorem dX10_fill_2 : decode cX10_fill 2 = .ok (.iload_n 2, 1) := by decide +kernel
theorem dX10_fill_3 : decode cX10_fill 3 = .ok (.aload_n 0, 1) := by decide +kernel
theorem dX10_fill_4 : decode cX10_fill 4 = .ok (.arraylength, 1) := by decide +kernel
theorem dX10_fill_5 : decode cX10_fill 5 = .ok (.if_icmp .ge 13, 3) := by decide +kernel
theorem dX10_fill_8 : decode cX10_fill 8 = .ok (.aload_n 0, 1) := by decide +kernel
theorem dX10_fill_9 : decode cX10_fill 9 = .ok (.iload_n 2, 1) := by decide +kernel
theorem dX10_fill_10 : decode cX10_fill 10 = .ok (.iload_n 1, 1) := by decide +kernel
theorem dX10_fill_11 : decode cX10_fill 11 = .ok (.iastore, 1) := by decide +kernel
theorem dX10_fill_12 : decode cX10_fill 12 = .ok (.iinc 2 1, 3) := by decide +kernel
theorem dX10_fill_15 : decode cX10_fill 15 = .ok (.goto (-13), 3) := by decide +kernel
theorem dX10_fill_18 : decode cX10_fill 18 = .ok (.return_, 1) := by decide +kernel
theorem dX10_sum_0 : decode cX10_sum 0 = .ok (.iconst 0, 1) := by decide +kernel
theorem dX10_sum_1 : decode cX10_sum 1 = .ok (.istore_n 1, 1) := by decide +kernel
theorem dX10_sum_2 : decode cX10_sum 2 = .ok (.iconst 0, 1) := by decide +kernel
theorem dX10_sum_3 : decode cX10_sum 3 = .ok (.istore_n 2, 1) := by decide +kernel
theorem dX10_sum_4 : decode cX10_sum 4 = .ok (.iload_n 2, 1) := by decide +kernel
theorem dX10_sum_5 : decode cX10_sum 5 = .ok (.aload_n 0, 1) := by decide +kernel
theorem dX10_sum_6 : decode cX10_sum 6 = .ok (.arraylength, 1) := by decide +kernel
theorem dX10_sum_7 : decode cX10_sum 7 = .ok (.if_icmp .ge 15, 3) := by decide +kernel
theorem dX10_sum_10 : decode cX10_sum 10 = .ok (.iload_n 1, 1) := by decide +kernel
theorem dX10_sum_11 : decode cX10_sum 11 = .ok (.aload_n 0, 1) := by decide +kernel
theorem dX10_sum_12 : decode cX10_sum 12 = .ok (.iload_n 2, 1) := by decide +kernel
theorem dX10_sum_13 : decode cX10_sum 13 = .ok (.iaload, 1) := by decide +kernel
theorem dX10_sum_14 : decode cX10_sum 14 = .ok (.iadd, 1) := by decide +kernel
theorem dX10_sum_15 : decode cX10_sum 15 = .ok (.istore_n 1, 1) := by decide +kernel
theorem dX10_sum_16 : decode cX10_sum 16 = .ok (.iinc 2 1, 3) := by decide +kernel
theorem dX10_sum_19 : decode cX10_sum 19 = .ok (.goto (-15), 3) := by decide +kernel
theorem dX10_sum_22 : decode cX10_sum 22 = .ok (.iload_n 1, 1) := by decide +kernel
theorem dX10_sum_23 : decode cX10_sum 23 = .ok (.ireturn, 1) := by decide +kernel
