theorem d_Mo_init_0 : decode c_Mo_init 0 = .ok (.aload_n 0, 1) := by decide +kernel
theorem d_Mo_init_1 : decode c_Mo_init 1 = .ok (.invokespecial 1, 3) := by decide +kernel
theorem d_Mo_init_4 : decode c_Mo_init 4 = .ok (.aload_n 0, 1) := by decide +kernel
theorem d_Mo_init_5 : decode c_Mo_init 5 = .ok (.bipush 43, 2) := by decide +kernel
theorem d_Mo_init_7 : decode c_Mo_init 7 = .ok (.newarray .long, 2) := by decide +kernel
theorem d_Mo_init_9 : decode c_Mo_init 9 = .ok (.putfield 7, 3) := by decide +kernel
theorem d_Mo_init_12 : decode c_Mo_init 12 = .ok (.aload_n 0, 1) := by decide +kernel
theorem d_Mo_init_13 : decode c_Mo_init 13 = .ok (.bipush 40, 2) := by decide +kernel
theorem d_Mo_init_15 : decode c_Mo_init 15 = .ok (.newarray .int, 2) := by decide +kernel
theorem d_Mo_init_17 : decode c_Mo_init 17 = .ok (.putfield 13, 3) := by decide +kernel
theorem d_Mo_init_20 : decode c_Mo_init 20 = .ok (.aload_n 0, 1) := by decide +kernel
theorem d_Mo_init_21 : decode c_Mo_init 21 = .ok (.sipush 860, 3) := by decide +kernel
theorem d_Mo_init_24 : decode c_Mo_init 24 = .ok (.newarray .long, 2) := by decide +kernel
theorem d_Mo_init_26 : decode c_Mo_init 26 = .ok (.putfield 17, 3) := by decide +kernel
theorem d_Mo_init_29 : decode c_Mo_init 29 = .ok (.aload_n 0, 1) := by decide +kernel
theorem d_Mo_init_30 : decode c_Mo_init 30 = .ok (.sipush 800, 3) := by decide +kernel
theorem d_Mo_init_33 : decode c_Mo_init 33 = .ok (.newarray .int, 2) := by decide +kernel
theorem d_Mo_init_35 : decode c_Mo_init 35 = .ok (.putfield 20, 3) := by decide +kernel
theorem d_Mo_init_38 : decode c_Mo_init 38 = .ok (.aload_n 0, 1) := by decide +kernel
theorem d_Mo_init_39 : decode c_Mo_init 39 = .ok (.bipush 86, 2) := by decide +kernel
theorem d_Mo_init_41 : decode c_Mo_init 41 = .ok (.newarray .long, 2) := by decide +kernel
theorem d_Mo_init_43 : decode c_Mo_init 43 = .ok (.putfield 23, 3) := by decide +kernel
theorem d_Mo_init_46 : decode c_Mo_init 46 = .ok (.aload_n 0, 1) := by decide +kernel
theorem d_Mo_init_47 : decode c_Mo_init 47 = .ok (.bipush 80, 2) := by decide +kernel
theorem d_Mo_init_49 : decode c_Mo_init 49 = .ok (.newarray .int, 2) := by decide +kernel
theorem d_Mo_init_51 : decode c_Mo_init 51 = .ok (.putfield 26, 3) := by decide +kernel
theorem d_Mo_init_54 : decode c_Mo_init 54 = .ok (.aload_n 0, 1) := by decide +kernel
theorem d_Mo_init_55 : decode c_Mo_init 55 = .ok (.iconst 2, 1) := by decide +kernel
theorem d_Mo_init_56 : decode c_Mo_init 56 = .ok (.newarray .int, 2) := by decide +kernel
theorem d_Mo_init_58 : decode c_Mo_init 58 = .ok (.putfield 29, 3) := by decide +kernel
theorem d_Mo_init_61 : decode c_Mo_init 61 = .ok (.aload_n 0, 1) := by decide +kernel
theorem d_Mo_init_62 : decode c_Mo_init 62 = .ok (.iconst 2, 1) := by decide +kernel
theorem d_Mo_init_63 : decode c_Mo_init 63 = .ok (.newarray .boolean, 2) := by decide +kernel
theorem d_Mo_init_65 : decode c_Mo_init 65 = .ok (.putfield 32, 3) := by decide +kernel
theorem d_Mo_init_68 : decode c_Mo_init 68 = .ok (.aload_n 0, 1) := by decide +kernel
theorem d_Mo_init_69 : decode c_Mo_init 69 = .ok (.bipush 6, 2) := by decide +kernel
theorem d_Mo_init_71 : decode c_Mo_init 71 = .ok (.newarray .long, 2) := by decide +kernel
theorem d_Mo_init_73 : decode c_Mo_init 73 = .ok (.putfield 36, 3) := by decide +kernel
theorem d_Mo_init_76 : decode c_Mo_init 76 = .ok (.aload_n 0, 1) := by decide +kernel
theorem d_Mo_init_77 : decode c_Mo_init 77 = .ok (.bipush 6, 2) := by decide +kernel
theorem d_Mo_init_79 : decode c_Mo_init 79 = .ok (.newarray .int, 2) := by decide +kernel
theorem d_Mo_init_81 : decode c_Mo_init 81 = .ok (.putfield 39, 3) := by decide +kernel
theorem d_Mo_init_84 : decode c_Mo_init 84 = .ok (.aload_n 0, 1) := by decide +kernel
theorem d_Mo_init_85 : decode c_Mo_init 85 = .ok (.bipush 20, 2) := by decide +kernel
theorem d_Mo_init_87 : decode c_Mo_init 87 = .ok (.newarray .int, 2) := by decide +kernel
theorem d_Mo_init_89 : decode c_Mo_init 89 = .ok (.putfield 42, 3) := by decide +kernel
theorem d_Mo_init_92 : decode c_Mo_init 92 = .ok (.aload_n 0, 1) := by decide +kernel
theorem d_Mo_init_93 : decode c_Mo_init 93 = .ok (.bipush 20, 2) := by decide +kernel
theorem d_Mo_init_95 : decode c_Mo_init 95 = .ok (.newarray .int, 2) := by decide +kernel
theorem d_Mo_init_97 : decode c_Mo_init 97 = .ok (.putfield 45, 3) := by decide +kernel
theorem d_Mo_init_100 : decode c_Mo_init 100 = .ok (.aload_n 0, 1) := by decide +kernel
theorem d_Mo_init_101 : decode c_Mo_init 101 = .ok (.bipush 20, 2) := by decide +kernel
theorem d_Mo_init_103 : decode c_Mo_init 103 = .ok (.newarray .int, 2) := by decide +kernel
theorem d_Mo_init_105 : decode c_Mo_init 105 = .ok (.putfield 48, 3) := by decide +kernel
theorem d_Mo_init_108 : decode c_Mo_init 108 = .ok (.aload_n 0, 1) := by decide +kernel
theorem d_Mo_init_109 : decode c_Mo_init 109 = .ok (.bipush 40, 2) := by decide +kernel
theorem d_Mo_init_111 : decode c_Mo_init 111 = .ok (.newarray .int, 2) := by decide +kernel
theorem d_Mo_init_113 : decode c_Mo_init 113 = .ok (.putfield 51, 3) := by decide +kernel
theorem d_Mo_init_116 : decode c_Mo_init 116 = .ok (.aload_n 0, 1) := by decide +kernel
theorem d_Mo_init_117 : decode c_Mo_init 117 = .ok (.bipush 65, 2) := by decide +kernel
theorem d_Mo_init_119 : decode c_Mo_init 119 = .ok (.newarray .int, 2) := by decide +kernel
theorem d_Mo_init_121 : decode c_Mo_init 121 = .ok (.putfield 54, 3) := by decide +kernel
theorem d_Mo_init_124 : decode c_Mo_init 124 = .ok (.aload_n 0, 1) := by decide +kernel
theorem d_Mo_init_125 : decode c_Mo_init 125 = .ok (.getfield 7, 3) := by decide +kernel
theorem d_Mo_init_128 : decode c_Mo_init 128 = .ok (.iconst 1, 1) := by decide +kernel
theorem d_Mo_init_129 : decode c_Mo_init 129 = .ok (.ldc2_w 57, 3) := by decide +kernel
theorem d_Mo_init_132 : decode c_Mo_init 132 = .ok (.lastore, 1) := by decide +kernel
theorem d_Mo_init_133 : decode c_Mo_init 133 = .ok (.return_, 1) := by decide +kernel
theorem d_Mo_in_0 : decode c_Mo_in 0 = .ok (.lload_n 0, 1) := by decide +kernel
theorem d_Mo_in_1 : decode c_Mo_in 1 = .ok (.lload_n 2, 1) := by decide +kernel
theorem d_Mo_in_2 : decode c_Mo_in 2 = .ok (.lcmp, 1) := by decide +kernel
theorem d_Mo_in_3 : decode c_Mo_in 3 = .ok (.ifCond .lt 14, 3) := by decide +kernel
theorem d_Mo_in_6 : decode c_Mo_in 6 = .ok (.lload_n 0, 1) := by decide +kernel
theorem d_Mo_in_7 : decode c_Mo_in 7 = .ok (.lload 4, 2) := by decide +kernel
theorem d_Mo_in_9 : decode c_Mo_in 9 = .ok (.lcmp, 1) := by decide +kernel
theorem d_Mo_in_10 : decode c_Mo_in 10 = .ok (.ifCond .gt 7, 3) := by decide +kernel
theorem d_Mo_in_13 : decode c_Mo_in 13 = .ok (.iconst 1, 1) := by decide +kernel
theorem d_Mo_in_14 : decode c_Mo_in 14 = .ok (.goto 4, 3) := by decide +kernel
theorem d_Mo_in_17 : decode c_Mo_in 17 = .ok (.iconst 0, 1) := by decide +kernel
theorem d_Mo_in_18 : decode c_Mo_in 18 = .ok (.ireturn, 1) := by decide +kernel
theorem d_Mo_ones_0 : decode c_Mo_ones 0 = .ok (.iconst 0, 1) := by decide +kernel
theorem d_Mo_ones_1 : decode c_Mo_ones 1 = .ok (.istore_n 2, 1) := by decide +kernel
theorem d_Mo_ones_2 : decode c_Mo_ones 2 = .ok (.iconst 0, 1) := by decide +kernel
theorem d_Mo_ones_3 : decode c_Mo_ones 3 = .ok (.istore_n 3, 1) := by decide +kernel
theorem d_Mo_ones_4 : decode c_Mo_ones 4 = .ok (.iload_n 3, 1) := by decide +kernel
theorem d_Mo_ones_5 : decode c_Mo_ones 5 = .ok (.bipush 64, 2) := by decide +kernel
theorem d_Mo_ones_7 : decode c_Mo_ones 7 = .ok (.if_icmp .ge 27, 3) := by decide +kernel
theorem d_Mo_ones_10 : decode c_Mo_ones 10 = .ok (.iload_n 2, 1) := by decide +kernel
theorem d_Mo_ones_11 : decode c_Mo_ones 11 = .ok (.lload_n 0, 1) := by decide +kernel
theorem d_Mo_ones_12 : decode c_Mo_ones 12 = .ok (.iload_n 3, 1) := by decide +kernel
theorem d_Mo_ones_13 : decode c_Mo_ones 13 = .ok (.lshr, 1) := by decide +kernel
theorem d_Mo_ones_14 : decode c_Mo_ones 14 = .ok (.lconst 1, 1) := by decide +kernel
theorem d_Mo_ones_15 : decode c_Mo_ones 15 = .ok (.land, 1) := by decide +kernel
theorem d_Mo_ones_16 : decode c_Mo_ones 16 = .ok (.lconst 1, 1) := by decide +kernel
theorem d_Mo_ones_17 : decode c_Mo_ones 17 = .ok (.lcmp, 1) := by decide +kernel
theorem d_Mo_ones_18 : decode c_Mo_ones 18 = .ok (.ifCond .ne 7, 3) := by decide +kernel
theorem d_Mo_ones_21 : decode c_Mo_ones 21 = .ok (.iconst 1, 1) := by decide +kernel
theorem d_Mo_ones_22 : decode c_Mo_ones 22 = .ok (.goto 4, 3) := by decide +kernel
theorem d_Mo_ones_25 : decode c_Mo_ones 25 = .ok (.iconst 0, 1) := by decide +kernel
theorem d_Mo_ones_26 : decode c_Mo_ones 26 = .ok (.iadd, 1) := by decide +kernel
theorem d_Mo_ones_27 : decode c_Mo_ones 27 = .ok (.istore_n 2, 1) := by decide +kernel
theorem d_Mo_ones_28 : decode c_Mo_ones 28 = .ok (.iinc 3 1, 3) := by decide +kernel
theorem d_Mo_ones_31 : decode c_Mo_ones 31 = .ok (.goto (-27), 3) := by decide +kernel
theorem d_Mo_ones_34 : decode c_Mo_ones 34 = .ok (.iload_n 2, 1) := by decide +kernel
theorem d_Mo_ones_35 : decode c_Mo_ones 35 = .ok (.ireturn, 1) := by decide +kernel
theorem d_Mo_has_0 : decode c_Mo_has 0 = .ok (.lload_n 0, 1) := by decide +kernel
theorem d_Mo_has_1 : decode c_Mo_has 1 = .ok (.iload_n 2, 1) := by decide +kernel
theorem d_Mo_has_2 : decode c_Mo_has 2 = .ok (.lshr, 1) := by decide +kernel
theorem d_Mo_has_3 : decode c_Mo_has 3 = .ok (.lconst 1, 1) := by decide +kernel
theorem d_Mo_has_4 : decode c_Mo_has 4 = .ok (.land, 1) := by decide +kernel
theorem d_Mo_has_5 : decode c_Mo_has 5 = .ok (.lconst 1, 1) := by decide +kernel
theorem d_Mo_has_6 : decode c_Mo_has 6 = .ok (.lcmp, 1) := by decide +kernel
theorem d_Mo_has_7 : decode c_Mo_has 7 = .ok (.ifCond .ne 7, 3) := by decide +kernel
theorem d_Mo_has_10 : decode c_Mo_has 10 = .ok (.iconst 1, 1) := by decide +kernel
theorem d_Mo_has_11 : decode c_Mo_has 11 = .ok (.goto 4, 3) := by decide +kernel
theorem d_Mo_has_14 : decode c_Mo_has 14 = .ok (.iconst 0, 1) := by decide +kernel
theorem d_Mo_has_15 : decode c_Mo_has 15 = .ok (.ireturn, 1) := by decide +kernel
theorem d_Mo_marks_0 : decode c_Mo_marks 0 = .ok (.aload_n 0, 1) := by decide +kernel
theorem d_Mo_marks_1 : decode c_Mo_marks 1 = .ok (.getfield 7, 3) := by decide +kernel
theorem d_Mo_marks_4 : decode c_Mo_marks 4 = .ok (.iconst 2, 1) := by decide +kernel
theorem d_Mo_marks_5 : decode c_Mo_marks 5 = .ok (.laload, 1) := by decide +kernel
theorem d_Mo_marks_6 : decode c_Mo_marks 6 = .ok (.l2i, 1) := by decide +kernel
theorem d_Mo_marks_7 : decode c_Mo_marks 7 = .ok (.ireturn, 1) := by decide +kernel
theorem d_Mo_own_0 : decode c_Mo_own 0 = .ok (.aload_n 0, 1) := by decide +kernel
theorem d_Mo_own_1 : decode c_Mo_own 1 = .ok (.getfield 7, 3) := by decide +kernel
theorem d_Mo_own_4 : decode c_Mo_own 4 = .ok (.iconst 3, 1) := by decide +kernel
theorem d_Mo_own_5 : decode c_Mo_own 5 = .ok (.iload_n 1, 1) := by decide +kernel
theorem d_Mo_own_6 : decode c_Mo_own 6 = .ok (.iadd, 1) := by decide +kernel
theorem d_Mo_own_7 : decode c_Mo_own 7 = .ok (.laload, 1) := by decide +kernel
theorem d_Mo_own_8 : decode c_Mo_own 8 = .ok (.lreturn, 1) := by decide +kernel
theorem d_Mo_isMark_0 : decode c_Mo_isMark 0 = .ok (.iload_n 1, 1) := by decide +kernel
theorem d_Mo_isMark_1 : decode c_Mo_isMark 1 = .ok (.i2l, 1) := by decide +kernel
theorem d_Mo_isMark_2 : decode c_Mo_isMark 2 = .ok (.lconst 0, 1) := by decide +kernel
theorem d_Mo_isMark_3 : decode c_Mo_isMark 3 = .ok (.aload_n 0, 1) := by decide +kernel
theorem d_Mo_isMark_4 : decode c_Mo_isMark 4 = .ok (.invokevirtual 59, 3) := by decide +kernel
theorem d_Mo_isMark_7 : decode c_Mo_isMark 7 = .ok (.iconst 1, 1) := by decide +kernel
theorem d_Mo_isMark_8 : decode c_Mo_isMark 8 = .ok (.isub, 1) := by decide +kernel
theorem d_Mo_isMark_9 : decode c_Mo_isMark 9 = .ok (.i2l, 1) := by decide +kernel
theorem d_Mo_isMark_10 : decode c_Mo_isMark 10 = .ok (.invokestatic 63, 3) := by decide +kernel
theorem d_Mo_isMark_13 : decode c_Mo_isMark 13 = .ok (.ireturn, 1) := by decide +kernel
theorem d_Mo_off_0 : decode c_Mo_off 0 = .ok (.aload_n 0, 1) := by decide +kernel
theorem d_Mo_off_1 : decode c_Mo_off 1 = .ok (.iload_n 1, 1) := by decide +kernel
theorem d_Mo_off_2 : decode c_Mo_off 2 = .ok (.invokevirtual 67, 3) := by decide +kernel
theorem d_Mo_off_5 : decode c_Mo_off 5 = .ok (.aload_n 0, 1) := by decide +kernel
theorem d_Mo_off_6 : decode c_Mo_off 6 = .ok (.getfield 7, 3) := by decide +kernel
theorem d_Mo_off_9 : decode c_Mo_off 9 = .ok (.iconst 0, 1) := by decide +kernel
theorem d_Mo_off_10 : decode c_Mo_off 10 = .ok (.laload, 1) := by decide +kernel
theorem d_Mo_off_11 : decode c_Mo_off 11 = .ok (.lxor, 1) := by decide +kernel
theorem d_Mo_off_12 : decode c_Mo_off 12 = .ok (.invokestatic 71, 3) := by decide +kernel
theorem d_Mo_off_15 : decode c_Mo_off 15 = .ok (.ireturn, 1) := by decide +kernel
theorem d_Mo_parts_0 : decode c_Mo_parts 0 = .ok (.aload_n 0, 1) := by decide +kernel
theorem d_Mo_parts_1 : decode c_Mo_parts 1 = .ok (.getfield 7, 3) := by decide +kernel
theorem d_Mo_parts_4 : decode c_Mo_parts 4 = .ok (.iconst 1, 1) := by decide +kernel
theorem d_Mo_parts_5 : decode c_Mo_parts 5 = .ok (.laload, 1) := by decide +kernel
theorem d_Mo_parts_6 : decode c_Mo_parts 6 = .ok (.invokestatic 71, 3) := by decide +kernel
theorem d_Mo_parts_9 : decode c_Mo_parts 9 = .ok (.ireturn, 1) := by decide +kernel
theorem d_Mo_isLooked_0 : decode c_Mo_isLooked 0 = .ok (.lload_n 0, 1) := by decide +kernel
theorem d_Mo_isLooked_1 : decode c_Mo_isLooked 1 = .ok (.lload_n 2, 1) := by decide +kernel
theorem d_Mo_isLooked_2 : decode c_Mo_isLooked 2 = .ok (.lxor, 1) := by decide +kernel
theorem d_Mo_isLooked_3 : decode c_Mo_isLooked 3 = .ok (.lstore 6, 2) := by decide +kernel
theorem d_Mo_isLooked_5 : decode c_Mo_isLooked 5 = .ok (.iconst 0, 1) := by decide +kernel
theorem d_Mo_isLooked_6 : decode c_Mo_isLooked 6 = .ok (.istore 8, 2) := by decide +kernel
theorem d_Mo_isLooked_8 : decode c_Mo_isLooked 8 = .ok (.iconst 0, 1) := by decide +kernel
theorem d_Mo_isLooked_9 : decode c_Mo_isLooked 9 = .ok (.istore 9, 2) := by decide +kernel
theorem d_Mo_isLooked_11 : decode c_Mo_isLooked 11 = .ok (.iconst 0, 1) := by decide +kernel
theorem d_Mo_isLooked_12 : decode c_Mo_isLooked 12 = .ok (.istore 10, 2) := by decide +kernel
theorem d_Mo_isLooked_14 : decode c_Mo_isLooked 14 = .ok (.iload 10, 2) := by decide +kernel
theorem d_Mo_isLooked_16 : decode c_Mo_isLooked 16 = .ok (.bipush 64, 2) := by decide +kernel
theorem d_Mo_isLooked_18 : decode c_Mo_isLooked 18 = .ok (.if_icmp .ge 73, 3) := by decide +kernel
theorem d_Mo_isLooked_21 : decode c_Mo_isLooked 21 = .ok (.iload 8, 2) := by decide +kernel
theorem d_Mo_isLooked_23 : decode c_Mo_isLooked 23 = .ok (.ifCond .ne 23, 3) := by decide +kernel
theorem d_Mo_isLooked_26 : decode c_Mo_isLooked 26 = .ok (.iload 10, 2) := by decide +kernel
theorem d_Mo_isLooked_28 : decode c_Mo_isLooked 28 = .ok (.ifCond .le 22, 3) := by decide +kernel
theorem d_Mo_isLooked_31 : decode c_Mo_isLooked 31 = .ok (.lload 4, 2) := by decide +kernel
theorem d_Mo_isLooked_33 : decode c_Mo_isLooked 33 = .ok (.iload 10, 2) := by decide +kernel
theorem d_Mo_isLooked_35 : decode c_Mo_isLooked 35 = .ok (.invokestatic 75, 3) := by decide +kernel
theorem d_Mo_isLooked_38 : decode c_Mo_isLooked 38 = .ok (.ifCond .eq 12, 3) := by decide +kernel
theorem d_Mo_isLooked_41 : decode c_Mo_isLooked 41 = .ok (.iload 9, 2) := by decide +kernel
theorem d_Mo_isLooked_43 : decode c_Mo_isLooked 43 = .ok (.ifCond .eq 7, 3) := by decide +kernel
theorem d_Mo_isLooked_46 : decode c_Mo_isLooked 46 = .ok (.iconst 1, 1) := by decide +kernel
theorem d_Mo_isLooked_47 : decode c_Mo_isLooked 47 = .ok (.goto 4, 3) := by decide +kernel
theorem d_Mo_isLooked_50 : decode c_Mo_isLooked 50 = .ok (.iconst 0, 1) := by decide +kernel
theorem d_Mo_isLooked_51 : decode c_Mo_isLooked 51 = .ok (.istore 8, 2) := by decide +kernel
theorem d_Mo_isLooked_53 : decode c_Mo_isLooked 53 = .ok (.lload 4, 2) := by decide +kernel
theorem d_Mo_isLooked_55 : decode c_Mo_isLooked 55 = .ok (.iload 10, 2) := by decide +kernel
theorem d_Mo_isLooked_57 : decode c_Mo_isLooked 57 = .ok (.invokestatic 75, 3) := by decide +kernel
theorem d_Mo_isLooked_60 : decode c_Mo_isLooked 60 = .ok (.ifCond .ne 8, 3) := by decide +kernel
theorem d_Mo_isLooked_63 : decode c_Mo_isLooked 63 = .ok (.iload 9, 2) := by decide +kernel
theorem d_Mo_isLooked_65 : decode c_Mo_isLooked 65 = .ok (.ifCond .eq 17, 3) := by decide +kernel
theorem d_Mo_isLooked_68 : decode c_Mo_isLooked 68 = .ok (.lload 6, 2) := by decide +kernel
theorem d_Mo_isLooked_70 : decode c_Mo_isLooked 70 = .ok (.iload 10, 2) := by decide +kernel
theorem d_Mo_isLooked_72 : decode c_Mo_isLooked 72 = .ok (.invokestatic 75, 3) := by decide +kernel
theorem d_Mo_isLooked_75 : decode c_Mo_isLooked 75 = .ok (.ifCond .ne 7, 3) := by decide +kernel
theorem d_Mo_isLooked_78 : decode c_Mo_isLooked 78 = .ok (.iconst 1, 1) := by decide +kernel
theorem d_Mo_isLooked_79 : decode c_Mo_isLooked 79 = .ok (.goto 4, 3) := by decide +kernel
theorem d_Mo_isLooked_82 : decode c_Mo_isLooked 82 = .ok (.iconst 0, 1) := by decide +kernel
theorem d_Mo_isLooked_83 : decode c_Mo_isLooked 83 = .ok (.istore 9, 2) := by decide +kernel
theorem d_Mo_isLooked_85 : decode c_Mo_isLooked 85 = .ok (.iinc 10 1, 3) := by decide +kernel
theorem d_Mo_isLooked_88 : decode c_Mo_isLooked 88 = .ok (.goto (-74), 3) := by decide +kernel
theorem d_Mo_isLooked_91 : decode c_Mo_isLooked 91 = .ok (.iload 8, 2) := by decide +kernel
theorem d_Mo_isLooked_93 : decode c_Mo_isLooked 93 = .ok (.ifCond .ne 8, 3) := by decide +kernel
theorem d_Mo_isLooked_96 : decode c_Mo_isLooked 96 = .ok (.iload 9, 2) := by decide +kernel
theorem d_Mo_isLooked_98 : decode c_Mo_isLooked 98 = .ok (.ifCond .eq 7, 3) := by decide +kernel
theorem d_Mo_isLooked_101 : decode c_Mo_isLooked 101 = .ok (.iconst 1, 1) := by decide +kernel
theorem d_Mo_isLooked_102 : decode c_Mo_isLooked 102 = .ok (.goto 4, 3) := by decide +kernel
theorem d_Mo_isLooked_105 : decode c_Mo_isLooked 105 = .ok (.iconst 0, 1) := by decide +kernel
theorem d_Mo_isLooked_106 : decode c_Mo_isLooked 106 = .ok (.ireturn, 1) := by decide +kernel
theorem d_Mo_like_0 : decode c_Mo_like 0 = .ok (.iconst (-1), 1) := by decide +kernel
theorem d_Mo_like_1 : decode c_Mo_like 1 = .ok (.istore_n 3, 1) := by decide +kernel
theorem d_Mo_like_2 : decode c_Mo_like 2 = .ok (.iconst 0, 1) := by decide +kernel
theorem d_Mo_like_3 : decode c_Mo_like 3 = .ok (.istore 4, 2) := by decide +kernel
theorem d_Mo_like_5 : decode c_Mo_like 5 = .ok (.iload 4, 2) := by decide +kernel
theorem d_Mo_like_7 : decode c_Mo_like 7 = .ok (.aload_n 0, 1) := by decide +kernel
theorem d_Mo_like_8 : decode c_Mo_like 8 = .ok (.invokevirtual 59, 3) := by decide +kernel
theorem d_Mo_like_11 : decode c_Mo_like 11 = .ok (.if_icmp .ge 27, 3) := by decide +kernel
theorem d_Mo_like_14 : decode c_Mo_like 14 = .ok (.aload_n 0, 1) := by decide +kernel
theorem d_Mo_like_15 : decode c_Mo_like 15 = .ok (.iload 4, 2) := by decide +kernel
theorem d_Mo_like_17 : decode c_Mo_like 17 = .ok (.invokevirtual 67, 3) := by decide +kernel
theorem d_Mo_like_20 : decode c_Mo_like 20 = .ok (.lload_n 1, 1) := by decide +kernel
theorem d_Mo_like_21 : decode c_Mo_like 21 = .ok (.lcmp, 1) := by decide +kernel
theorem d_Mo_like_22 : decode c_Mo_like 22 = .ok (.ifCond .ne 8, 3) := by decide +kernel
theorem d_Mo_like_25 : decode c_Mo_like 25 = .ok (.iload 4, 2) := by decide +kernel
theorem d_Mo_like_27 : decode c_Mo_like 27 = .ok (.goto 4, 3) := by decide +kernel
theorem d_Mo_like_30 : decode c_Mo_like 30 = .ok (.iload_n 3, 1) := by decide +kernel
theorem d_Mo_like_31 : decode c_Mo_like 31 = .ok (.istore_n 3, 1) := by decide +kernel
theorem d_Mo_like_32 : decode c_Mo_like 32 = .ok (.iinc 4 1, 3) := by decide +kernel
theorem d_Mo_like_35 : decode c_Mo_like 35 = .ok (.goto (-30), 3) := by decide +kernel
theorem d_Mo_like_38 : decode c_Mo_like 38 = .ok (.iload_n 3, 1) := by decide +kernel
theorem d_Mo_like_39 : decode c_Mo_like 39 = .ok (.ireturn, 1) := by decide +kernel
theorem d_Mo_looked_0 : decode c_Mo_looked 0 = .ok (.iconst 0, 1) := by decide +kernel
theorem d_Mo_looked_1 : decode c_Mo_looked 1 = .ok (.istore_n 2, 1) := by decide +kernel
theorem d_Mo_looked_2 : decode c_Mo_looked 2 = .ok (.iconst 0, 1) := by decide +kernel
theorem d_Mo_looked_3 : decode c_Mo_looked 3 = .ok (.istore_n 3, 1) := by decide +kernel
theorem d_Mo_looked_4 : decode c_Mo_looked 4 = .ok (.iload_n 3, 1) := by decide +kernel
theorem d_Mo_looked_5 : decode c_Mo_looked 5 = .ok (.aload_n 0, 1) := by decide +kernel
theorem d_Mo_looked_6 : decode c_Mo_looked 6 = .ok (.invokevirtual 59, 3) := by decide +kernel
theorem d_Mo_looked_9 : decode c_Mo_looked 9 = .ok (.if_icmp .ge 60, 3) := by decide +kernel
theorem d_Mo_looked_12 : decode c_Mo_looked 12 = .ok (.aload_n 0, 1) := by decide +kernel
theorem d_Mo_looked_13 : decode c_Mo_looked 13 = .ok (.iload_n 3, 1) := by decide +kernel
theorem d_Mo_looked_14 : decode c_Mo_looked 14 = .ok (.invokevirtual 67, 3) := by decide +kernel
theorem d_Mo_looked_17 : decode c_Mo_looked 17 = .ok (.aload_n 0, 1) := by decide +kernel
theorem d_Mo_looked_18 : decode c_Mo_looked 18 = .ok (.getfield 7, 3) := by decide +kernel
theorem d_Mo_looked_21 : decode c_Mo_looked 21 = .ok (.iconst 0, 1) := by decide +kernel
theorem d_Mo_looked_22 : decode c_Mo_looked 22 = .ok (.laload, 1) := by decide +kernel
theorem d_Mo_looked_23 : decode c_Mo_looked 23 = .ok (.aload_n 0, 1) := by decide +kernel
theorem d_Mo_looked_24 : decode c_Mo_looked 24 = .ok (.getfield 7, 3) := by decide +kernel
theorem d_Mo_looked_27 : decode c_Mo_looked 27 = .ok (.iconst 1, 1) := by decide +kernel
theorem d_Mo_looked_28 : decode c_Mo_looked 28 = .ok (.laload, 1) := by decide +kernel
theorem d_Mo_looked_29 : decode c_Mo_looked 29 = .ok (.invokestatic 79, 3) := by decide +kernel
theorem d_Mo_looked_32 : decode c_Mo_looked 32 = .ok (.istore 4, 2) := by decide +kernel
theorem d_Mo_looked_34 : decode c_Mo_looked 34 = .ok (.iload_n 2, 1) := by decide +kernel
theorem d_Mo_looked_35 : decode c_Mo_looked 35 = .ok (.iload 4, 2) := by decide +kernel
theorem d_Mo_looked_37 : decode c_Mo_looked 37 = .ok (.ifCond .eq 23, 3) := by decide +kernel
theorem d_Mo_looked_40 : decode c_Mo_looked 40 = .ok (.iload_n 1, 1) := by decide +kernel
theorem d_Mo_looked_41 : decode c_Mo_looked 41 = .ok (.ifCond .eq 15, 3) := by decide +kernel
theorem d_Mo_looked_44 : decode c_Mo_looked 44 = .ok (.aload_n 0, 1) := by decide +kernel
theorem d_Mo_looked_45 : decode c_Mo_looked 45 = .ok (.iload_n 3, 1) := by decide +kernel
theorem d_Mo_looked_46 : decode c_Mo_looked 46 = .ok (.invokevirtual 82, 3) := by decide +kernel
theorem d_Mo_looked_49 : decode c_Mo_looked 49 = .ok (.aload_n 0, 1) := by decide +kernel
theorem d_Mo_looked_50 : decode c_Mo_looked 50 = .ok (.invokevirtual 86, 3) := by decide +kernel
theorem d_Mo_looked_53 : decode c_Mo_looked 53 = .ok (.if_icmp .lt 7, 3) := by decide +kernel
theorem d_Mo_looked_56 : decode c_Mo_looked 56 = .ok (.iconst 1, 1) := by decide +kernel
theorem d_Mo_looked_57 : decode c_Mo_looked 57 = .ok (.goto 4, 3) := by decide +kernel
theorem d_Mo_looked_60 : decode c_Mo_looked 60 = .ok (.iconst 0, 1) := by decide +kernel
theorem d_Mo_looked_61 : decode c_Mo_looked 61 = .ok (.iadd, 1) := by decide +kernel
theorem d_Mo_looked_62 : decode c_Mo_looked 62 = .ok (.istore_n 2, 1) := by decide +kernel
theorem d_Mo_looked_63 : decode c_Mo_looked 63 = .ok (.iinc 3 1, 3) := by decide +kernel
theorem d_Mo_looked_66 : decode c_Mo_looked 66 = .ok (.goto (-62), 3) := by decide +kernel
theorem d_Mo_looked_69 : decode c_Mo_looked 69 = .ok (.iload_n 2, 1) := by decide +kernel
theorem d_Mo_looked_70 : decode c_Mo_looked 70 = .ok (.ireturn, 1) := by decide +kernel
theorem d_Mo_ahead_0 : decode c_Mo_ahead 0 = .ok (.iconst 0, 1) := by decide +kernel
theorem d_Mo_ahead_1 : decode c_Mo_ahead 1 = .ok (.istore_n 2, 1) := by decide +kernel
theorem d_Mo_ahead_2 : decode c_Mo_ahead 2 = .ok (.iconst 0, 1) := by decide +kernel
theorem d_Mo_ahead_3 : decode c_Mo_ahead 3 = .ok (.istore_n 3, 1) := by decide +kernel
theorem d_Mo_ahead_4 : decode c_Mo_ahead 4 = .ok (.iload_n 3, 1) := by decide +kernel
theorem d_Mo_ahead_5 : decode c_Mo_ahead 5 = .ok (.aload_n 0, 1) := by decide +kernel
theorem d_Mo_ahead_6 : decode c_Mo_ahead 6 = .ok (.invokevirtual 59, 3) := by decide +kernel
theorem d_Mo_ahead_9 : decode c_Mo_ahead 9 = .ok (.if_icmp .ge 48, 3) := by decide +kernel
theorem d_Mo_ahead_12 : decode c_Mo_ahead 12 = .ok (.iload_n 2, 1) := by decide +kernel
theorem d_Mo_ahead_13 : decode c_Mo_ahead 13 = .ok (.aload_n 0, 1) := by decide +kernel
theorem d_Mo_ahead_14 : decode c_Mo_ahead 14 = .ok (.iload_n 3, 1) := by decide +kernel
theorem d_Mo_ahead_15 : decode c_Mo_ahead 15 = .ok (.invokevirtual 82, 3) := by decide +kernel
theorem d_Mo_ahead_18 : decode c_Mo_ahead 18 = .ok (.aload_n 0, 1) := by decide +kernel
theorem d_Mo_ahead_19 : decode c_Mo_ahead 19 = .ok (.iload_n 1, 1) := by decide +kernel
theorem d_Mo_ahead_20 : decode c_Mo_ahead 20 = .ok (.invokevirtual 82, 3) := by decide +kernel
theorem d_Mo_ahead_23 : decode c_Mo_ahead 23 = .ok (.if_icmp .lt 21, 3) := by decide +kernel
theorem d_Mo_ahead_26 : decode c_Mo_ahead 26 = .ok (.aload_n 0, 1) := by decide +kernel
theorem d_Mo_ahead_27 : decode c_Mo_ahead 27 = .ok (.iload_n 3, 1) := by decide +kernel
theorem d_Mo_ahead_28 : decode c_Mo_ahead 28 = .ok (.invokevirtual 82, 3) := by decide +kernel
theorem d_Mo_ahead_31 : decode c_Mo_ahead 31 = .ok (.aload_n 0, 1) := by decide +kernel
theorem d_Mo_ahead_32 : decode c_Mo_ahead 32 = .ok (.iload_n 1, 1) := by decide +kernel
theorem d_Mo_ahead_33 : decode c_Mo_ahead 33 = .ok (.invokevirtual 82, 3) := by decide +kernel
theorem d_Mo_ahead_36 : decode c_Mo_ahead 36 = .ok (.if_icmp .ne 12, 3) := by decide +kernel
theorem d_Mo_ahead_39 : decode c_Mo_ahead 39 = .ok (.iload_n 3, 1) := by decide +kernel
theorem d_Mo_ahead_40 : decode c_Mo_ahead 40 = .ok (.iload_n 1, 1) := by decide +kernel
theorem d_Mo_ahead_41 : decode c_Mo_ahead 41 = .ok (.if_icmp .ge 7, 3) := by decide +kernel
theorem d_Mo_ahead_44 : decode c_Mo_ahead 44 = .ok (.iconst 1, 1) := by decide +kernel
theorem d_Mo_ahead_45 : decode c_Mo_ahead 45 = .ok (.goto 4, 3) := by decide +kernel
theorem d_Mo_ahead_48 : decode c_Mo_ahead 48 = .ok (.iconst 0, 1) := by decide +kernel
theorem d_Mo_ahead_49 : decode c_Mo_ahead 49 = .ok (.iadd, 1) := by decide +kernel
theorem d_Mo_ahead_50 : decode c_Mo_ahead 50 = .ok (.istore_n 2, 1) := by decide +kernel
theorem d_Mo_ahead_51 : decode c_Mo_ahead 51 = .ok (.iinc 3 1, 3) := by decide +kernel
theorem d_Mo_ahead_54 : decode c_Mo_ahead 54 = .ok (.goto (-50), 3) := by decide +kernel
theorem d_Mo_ahead_57 : decode c_Mo_ahead 57 = .ok (.iload_n 2, 1) := by decide +kernel
theorem d_Mo_ahead_58 : decode c_Mo_ahead 58 = .ok (.ireturn, 1) := by decide +kernel
theorem d_Mo_nearestOf_0 : decode c_Mo_nearestOf 0 = .ok (.iconst (-1), 1) := by decide +kernel
theorem d_Mo_nearestOf_1 : decode c_Mo_nearestOf 1 = .ok (.istore_n 2, 1) := by decide +kernel
theorem d_Mo_nearestOf_2 : decode c_Mo_nearestOf 2 = .ok (.iconst 0, 1) := by decide +kernel
theorem d_Mo_nearestOf_3 : decode c_Mo_nearestOf 3 = .ok (.istore_n 3, 1) := by decide +kernel
theorem d_Mo_nearestOf_4 : decode c_Mo_nearestOf 4 = .ok (.iload_n 3, 1) := by decide +kernel
theorem d_Mo_nearestOf_5 : decode c_Mo_nearestOf 5 = .ok (.aload_n 0, 1) := by decide +kernel
theorem d_Mo_nearestOf_6 : decode c_Mo_nearestOf 6 = .ok (.invokevirtual 59, 3) := by decide +kernel
theorem d_Mo_nearestOf_9 : decode c_Mo_nearestOf 9 = .ok (.if_icmp .ge 24, 3) := by decide +kernel
theorem d_Mo_nearestOf_12 : decode c_Mo_nearestOf 12 = .ok (.aload_n 0, 1) := by decide +kernel
theorem d_Mo_nearestOf_13 : decode c_Mo_nearestOf 13 = .ok (.iload_n 3, 1) := by decide +kernel
theorem d_Mo_nearestOf_14 : decode c_Mo_nearestOf 14 = .ok (.invokevirtual 89, 3) := by decide +kernel
theorem d_Mo_nearestOf_17 : decode c_Mo_nearestOf 17 = .ok (.iload_n 1, 1) := by decide +kernel
theorem d_Mo_nearestOf_18 : decode c_Mo_nearestOf 18 = .ok (.if_icmp .ne 7, 3) := by decide +kernel
theorem d_Mo_nearestOf_21 : decode c_Mo_nearestOf 21 = .ok (.iload_n 3, 1) := by decide +kernel
theorem d_Mo_nearestOf_22 : decode c_Mo_nearestOf 22 = .ok (.goto 4, 3) := by decide +kernel
theorem d_Mo_nearestOf_25 : decode c_Mo_nearestOf 25 = .ok (.iload_n 2, 1) := by decide +kernel
theorem d_Mo_nearestOf_26 : decode c_Mo_nearestOf 26 = .ok (.istore_n 2, 1) := by decide +kernel
theorem d_Mo_nearestOf_27 : decode c_Mo_nearestOf 27 = .ok (.iinc 3 1, 3) := by decide +kernel
theorem d_Mo_nearestOf_30 : decode c_Mo_nearestOf 30 = .ok (.goto (-26), 3) := by decide +kernel
theorem d_Mo_nearestOf_33 : decode c_Mo_nearestOf 33 = .ok (.iload_n 2, 1) := by decide +kernel
theorem d_Mo_nearestOf_34 : decode c_Mo_nearestOf 34 = .ok (.ireturn, 1) := by decide +kernel
theorem d_Mo_isDead_0 : decode c_Mo_isDead 0 = .ok (.iconst 1, 1) := by decide +kernel
theorem d_Mo_isDead_1 : decode c_Mo_isDead 1 = .ok (.istore_n 2, 1) := by decide +kernel
theorem d_Mo_isDead_2 : decode c_Mo_isDead 2 = .ok (.iconst 1, 1) := by decide +kernel
theorem d_Mo_isDead_3 : decode c_Mo_isDead 3 = .ok (.istore_n 3, 1) := by decide +kernel
theorem d_Mo_isDead_4 : decode c_Mo_isDead 4 = .ok (.iload_n 3, 1) := by decide +kernel
theorem d_Mo_isDead_5 : decode c_Mo_isDead 5 = .ok (.aload_n 0, 1) := by decide +kernel
theorem d_Mo_isDead_6 : decode c_Mo_isDead 6 = .ok (.invokevirtual 59, 3) := by decide +kernel
theorem d_Mo_isDead_9 : decode c_Mo_isDead 9 = .ok (.if_icmp .ge 40, 3) := by decide +kernel
theorem d_Mo_isDead_12 : decode c_Mo_isDead 12 = .ok (.iload_n 2, 1) := by decide +kernel
theorem d_Mo_isDead_13 : decode c_Mo_isDead 13 = .ok (.ifCond .eq 36, 3) := by decide +kernel
theorem d_Mo_isDead_16 : decode c_Mo_isDead 16 = .ok (.aload_n 0, 1) := by decide +kernel
theorem d_Mo_isDead_17 : decode c_Mo_isDead 17 = .ok (.iload_n 3, 1) := by decide +kernel
theorem d_Mo_isDead_18 : decode c_Mo_isDead 18 = .ok (.invokevirtual 67, 3) := by decide +kernel
theorem d_Mo_isDead_21 : decode c_Mo_isDead 21 = .ok (.iload_n 1, 1) := by decide +kernel
theorem d_Mo_isDead_22 : decode c_Mo_isDead 22 = .ok (.invokestatic 75, 3) := by decide +kernel
theorem d_Mo_isDead_25 : decode c_Mo_isDead 25 = .ok (.aload_n 0, 1) := by decide +kernel
theorem d_Mo_isDead_26 : decode c_Mo_isDead 26 = .ok (.iconst 0, 1) := by decide +kernel
theorem d_Mo_isDead_27 : decode c_Mo_isDead 27 = .ok (.invokevirtual 67, 3) := by decide +kernel
theorem d_Mo_isDead_30 : decode c_Mo_isDead 30 = .ok (.iload_n 1, 1) := by decide +kernel
theorem d_Mo_isDead_31 : decode c_Mo_isDead 31 = .ok (.invokestatic 75, 3) := by decide +kernel
theorem d_Mo_isDead_34 : decode c_Mo_isDead 34 = .ok (.if_icmp .ne 7, 3) := by decide +kernel
theorem d_Mo_isDead_37 : decode c_Mo_isDead 37 = .ok (.iconst 1, 1) := by decide +kernel
theorem d_Mo_isDead_38 : decode c_Mo_isDead 38 = .ok (.goto 4, 3) := by decide +kernel
theorem d_Mo_isDead_41 : decode c_Mo_isDead 41 = .ok (.iconst 0, 1) := by decide +kernel
theorem d_Mo_isDead_42 : decode c_Mo_isDead 42 = .ok (.istore_n 2, 1) := by decide +kernel
theorem d_Mo_isDead_43 : decode c_Mo_isDead 43 = .ok (.iinc 3 1, 3) := by decide +kernel
theorem d_Mo_isDead_46 : decode c_Mo_isDead 46 = .ok (.goto (-42), 3) := by decide +kernel
theorem d_Mo_isDead_49 : decode c_Mo_isDead 49 = .ok (.iload_n 2, 1) := by decide +kernel
theorem d_Mo_isDead_50 : decode c_Mo_isDead 50 = .ok (.ireturn, 1) := by decide +kernel
theorem d_Mo_dead_0 : decode c_Mo_dead 0 = .ok (.iconst 0, 1) := by decide +kernel
theorem d_Mo_dead_1 : decode c_Mo_dead 1 = .ok (.istore_n 1, 1) := by decide +kernel
theorem d_Mo_dead_2 : decode c_Mo_dead 2 = .ok (.iconst 0, 1) := by decide +kernel
theorem d_Mo_dead_3 : decode c_Mo_dead 3 = .ok (.istore_n 2, 1) := by decide +kernel
theorem d_Mo_dead_4 : decode c_Mo_dead 4 = .ok (.iload_n 2, 1) := by decide +kernel
theorem d_Mo_dead_5 : decode c_Mo_dead 5 = .ok (.bipush 64, 2) := by decide +kernel
theorem d_Mo_dead_7 : decode c_Mo_dead 7 = .ok (.if_icmp .ge 25, 3) := by decide +kernel
theorem d_Mo_dead_10 : decode c_Mo_dead 10 = .ok (.iload_n 1, 1) := by decide +kernel
theorem d_Mo_dead_11 : decode c_Mo_dead 11 = .ok (.aload_n 0, 1) := by decide +kernel
theorem d_Mo_dead_12 : decode c_Mo_dead 12 = .ok (.iload_n 2, 1) := by decide +kernel
theorem d_Mo_dead_13 : decode c_Mo_dead 13 = .ok (.invokevirtual 92, 3) := by decide +kernel
theorem d_Mo_dead_16 : decode c_Mo_dead 16 = .ok (.ifCond .eq 7, 3) := by decide +kernel
theorem d_Mo_dead_19 : decode c_Mo_dead 19 = .ok (.iconst 1, 1) := by decide +kernel
theorem d_Mo_dead_20 : decode c_Mo_dead 20 = .ok (.goto 4, 3) := by decide +kernel
theorem d_Mo_dead_23 : decode c_Mo_dead 23 = .ok (.iconst 0, 1) := by decide +kernel
theorem d_Mo_dead_24 : decode c_Mo_dead 24 = .ok (.iadd, 1) := by decide +kernel
theorem d_Mo_dead_25 : decode c_Mo_dead 25 = .ok (.istore_n 1, 1) := by decide +kernel
theorem d_Mo_dead_26 : decode c_Mo_dead 26 = .ok (.iinc 2 1, 3) := by decide +kernel
theorem d_Mo_dead_29 : decode c_Mo_dead 29 = .ok (.goto (-25), 3) := by decide +kernel
theorem d_Mo_dead_32 : decode c_Mo_dead 32 = .ok (.iload_n 1, 1) := by decide +kernel
theorem d_Mo_dead_33 : decode c_Mo_dead 33 = .ok (.ireturn, 1) := by decide +kernel
theorem d_Mo_areTogether_0 : decode c_Mo_areTogether 0 = .ok (.iconst 1, 1) := by decide +kernel
theorem d_Mo_areTogether_1 : decode c_Mo_areTogether 1 = .ok (.istore_n 3, 1) := by decide +kernel
theorem d_Mo_areTogether_2 : decode c_Mo_areTogether 2 = .ok (.iconst 1, 1) := by decide +kernel
theorem d_Mo_areTogether_3 : decode c_Mo_areTogether 3 = .ok (.istore 4, 2) := by decide +kernel
theorem d_Mo_areTogether_5 : decode c_Mo_areTogether 5 = .ok (.iconst 0, 1) := by decide +kernel
theorem d_Mo_areTogether_6 : decode c_Mo_areTogether 6 = .ok (.istore 5, 2) := by decide +kernel
theorem d_Mo_areTogether_8 : decode c_Mo_areTogether 8 = .ok (.iload 5, 2) := by decide +kernel
theorem d_Mo_areTogether_10 : decode c_Mo_areTogether 10 = .ok (.aload_n 0, 1) := by decide +kernel
theorem d_Mo_areTogether_11 : decode c_Mo_areTogether 11 = .ok (.invokevirtual 59, 3) := by decide +kernel
theorem d_Mo_areTogether_14 : decode c_Mo_areTogether 14 = .ok (.if_icmp .ge 71, 3) := by decide +kernel
theorem d_Mo_areTogether_17 : decode c_Mo_areTogether 17 = .ok (.aload_n 0, 1) := by decide +kernel
theorem d_Mo_areTogether_18 : decode c_Mo_areTogether 18 = .ok (.iload 5, 2) := by decide +kernel
theorem d_Mo_areTogether_20 : decode c_Mo_areTogether 20 = .ok (.invokevirtual 67, 3) := by decide +kernel
theorem d_Mo_areTogether_23 : decode c_Mo_areTogether 23 = .ok (.iload_n 1, 1) := by decide +kernel
theorem d_Mo_areTogether_24 : decode c_Mo_areTogether 24 = .ok (.invokestatic 75, 3) := by decide +kernel
theorem d_Mo_areTogether_27 : decode c_Mo_areTogether 27 = .ok (.aload_n 0, 1) := by decide +kernel
theorem d_Mo_areTogether_28 : decode c_Mo_areTogether 28 = .ok (.iload 5, 2) := by decide +kernel
theorem d_Mo_areTogether_30 : decode c_Mo_areTogether 30 = .ok (.invokevirtual 67, 3) := by decide +kernel
theorem d_Mo_areTogether_33 : decode c_Mo_areTogether 33 = .ok (.iload_n 2, 1) := by decide +kernel
theorem d_Mo_areTogether_34 : decode c_Mo_areTogether 34 = .ok (.invokestatic 75, 3) := by decide +kernel
theorem d_Mo_areTogether_37 : decode c_Mo_areTogether 37 = .ok (.if_icmp .ne 7, 3) := by decide +kernel
theorem d_Mo_areTogether_40 : decode c_Mo_areTogether 40 = .ok (.iconst 1, 1) := by decide +kernel
theorem d_Mo_areTogether_41 : decode c_Mo_areTogether 41 = .ok (.goto 4, 3) := by decide +kernel
theorem d_Mo_areTogether_44 : decode c_Mo_areTogether 44 = .ok (.iconst 0, 1) := by decide +kernel
theorem d_Mo_areTogether_45 : decode c_Mo_areTogether 45 = .ok (.istore 6, 2) := by decide +kernel
theorem d_Mo_areTogether_47 : decode c_Mo_areTogether 47 = .ok (.iload_n 3, 1) := by decide +kernel
theorem d_Mo_areTogether_48 : decode c_Mo_areTogether 48 = .ok (.ifCond .eq 12, 3) := by decide +kernel
theorem d_Mo_areTogether_51 : decode c_Mo_areTogether 51 = .ok (.iload 6, 2) := by decide +kernel
theorem d_Mo_areTogether_53 : decode c_Mo_areTogether 53 = .ok (.ifCond .eq 7, 3) := by decide +kernel
theorem d_Mo_areTogether_56 : decode c_Mo_areTogether 56 = .ok (.iconst 1, 1) := by decide +kernel
theorem d_Mo_areTogether_57 : decode c_Mo_areTogether 57 = .ok (.goto 4, 3) := by decide +kernel
theorem d_Mo_areTogether_60 : decode c_Mo_areTogether 60 = .ok (.iconst 0, 1) := by decide +kernel
theorem d_Mo_areTogether_61 : decode c_Mo_areTogether 61 = .ok (.istore_n 3, 1) := by decide +kernel
theorem d_Mo_areTogether_62 : decode c_Mo_areTogether 62 = .ok (.iload 4, 2) := by decide +kernel
theorem d_Mo_areTogether_64 : decode c_Mo_areTogether 64 = .ok (.ifCond .eq 12, 3) := by decide +kernel
theorem d_Mo_areTogether_67 : decode c_Mo_areTogether 67 = .ok (.iload 6, 2) := by decide +kernel
theorem d_Mo_areTogether_69 : decode c_Mo_areTogether 69 = .ok (.ifCond .ne 7, 3) := by decide +kernel
theorem d_Mo_areTogether_72 : decode c_Mo_areTogether 72 = .ok (.iconst 1, 1) := by decide +kernel
theorem d_Mo_areTogether_73 : decode c_Mo_areTogether 73 = .ok (.goto 4, 3) := by decide +kernel
theorem d_Mo_areTogether_76 : decode c_Mo_areTogether 76 = .ok (.iconst 0, 1) := by decide +kernel
theorem d_Mo_areTogether_77 : decode c_Mo_areTogether 77 = .ok (.istore 4, 2) := by decide +kernel
theorem d_Mo_areTogether_79 : decode c_Mo_areTogether 79 = .ok (.iinc 5 1, 3) := by decide +kernel
theorem d_Mo_areTogether_82 : decode c_Mo_areTogether 82 = .ok (.goto (-74), 3) := by decide +kernel
theorem d_Mo_areTogether_85 : decode c_Mo_areTogether 85 = .ok (.iload_n 3, 1) := by decide +kernel
theorem d_Mo_areTogether_86 : decode c_Mo_areTogether 86 = .ok (.ifCond .ne 8, 3) := by decide +kernel
theorem d_Mo_areTogether_89 : decode c_Mo_areTogether 89 = .ok (.iload 4, 2) := by decide +kernel
theorem d_Mo_areTogether_91 : decode c_Mo_areTogether 91 = .ok (.ifCond .eq 7, 3) := by decide +kernel
theorem d_Mo_areTogether_94 : decode c_Mo_areTogether 94 = .ok (.iconst 1, 1) := by decide +kernel
theorem d_Mo_areTogether_95 : decode c_Mo_areTogether 95 = .ok (.goto 4, 3) := by decide +kernel
theorem d_Mo_areTogether_98 : decode c_Mo_areTogether 98 = .ok (.iconst 0, 1) := by decide +kernel
theorem d_Mo_areTogether_99 : decode c_Mo_areTogether 99 = .ok (.ireturn, 1) := by decide +kernel
theorem d_Mo_together_0 : decode c_Mo_together 0 = .ok (.iconst 0, 1) := by decide +kernel
theorem d_Mo_together_1 : decode c_Mo_together 1 = .ok (.istore_n 1, 1) := by decide +kernel
theorem d_Mo_together_2 : decode c_Mo_together 2 = .ok (.iload_n 1, 1) := by decide +kernel
theorem d_Mo_together_3 : decode c_Mo_together 3 = .ok (.bipush 64, 2) := by decide +kernel
theorem d_Mo_together_5 : decode c_Mo_together 5 = .ok (.if_icmp .ge 57, 3) := by decide +kernel
theorem d_Mo_together_8 : decode c_Mo_together 8 = .ok (.iload_n 1, 1) := by decide +kernel
theorem d_Mo_together_9 : decode c_Mo_together 9 = .ok (.iconst 1, 1) := by decide +kernel
theorem d_Mo_together_10 : decode c_Mo_together 10 = .ok (.iadd, 1) := by decide +kernel
theorem d_Mo_together_11 : decode c_Mo_together 11 = .ok (.istore_n 2, 1) := by decide +kernel
theorem d_Mo_together_12 : decode c_Mo_together 12 = .ok (.iload_n 2, 1) := by decide +kernel
theorem d_Mo_together_13 : decode c_Mo_together 13 = .ok (.bipush 64, 2) := by decide +kernel
theorem d_Mo_together_15 : decode c_Mo_together 15 = .ok (.if_icmp .ge 41, 3) := by decide +kernel
theorem d_Mo_together_18 : decode c_Mo_together 18 = .ok (.aload_n 0, 1) := by decide +kernel
theorem d_Mo_together_19 : decode c_Mo_together 19 = .ok (.iload_n 1, 1) := by decide +kernel
theorem d_Mo_together_20 : decode c_Mo_together 20 = .ok (.invokevirtual 92, 3) := by decide +kernel
theorem d_Mo_together_23 : decode c_Mo_together 23 = .ok (.ifCond .ne 33, 3) := by decide +kernel
theorem d_Mo_together_26 : decode c_Mo_together 26 = .ok (.aload_n 0, 1) := by decide +kernel
theorem d_Mo_together_27 : decode c_Mo_together 27 = .ok (.iload_n 2, 1) := by decide +kernel
theorem d_Mo_together_28 : decode c_Mo_together 28 = .ok (.invokevirtual 92, 3) := by decide +kernel
theorem d_Mo_together_31 : decode c_Mo_together 31 = .ok (.ifCond .ne 19, 3) := by decide +kernel
theorem d_Mo_together_34 : decode c_Mo_together 34 = .ok (.aload_n 0, 1) := by decide +kernel
theorem d_Mo_together_35 : decode c_Mo_together 35 = .ok (.iload_n 1, 1) := by decide +kernel
theorem d_Mo_together_36 : decode c_Mo_together 36 = .ok (.iload_n 2, 1) := by decide +kernel
theorem d_Mo_together_37 : decode c_Mo_together 37 = .ok (.invokevirtual 96, 3) := by decide +kernel
theorem d_Mo_together_40 : decode c_Mo_together 40 = .ok (.ifCond .eq 10, 3) := by decide +kernel
theorem d_Mo_together_43 : decode c_Mo_together 43 = .ok (.bipush 64, 2) := by decide +kernel
theorem d_Mo_together_45 : decode c_Mo_together 45 = .ok (.iload_n 1, 1) := by decide +kernel
theorem d_Mo_together_46 : decode c_Mo_together 46 = .ok (.imul, 1) := by decide +kernel
theorem d_Mo_together_47 : decode c_Mo_together 47 = .ok (.iload_n 2, 1) := by decide +kernel
theorem d_Mo_together_48 : decode c_Mo_together 48 = .ok (.iadd, 1) := by decide +kernel
theorem d_Mo_together_49 : decode c_Mo_together 49 = .ok (.ireturn, 1) := by decide +kernel
theorem d_Mo_together_50 : decode c_Mo_together 50 = .ok (.iinc 2 1, 3) := by decide +kernel
theorem d_Mo_together_53 : decode c_Mo_together 53 = .ok (.goto (-41), 3) := by decide +kernel
theorem d_Mo_together_56 : decode c_Mo_together 56 = .ok (.iinc 1 1, 3) := by decide +kernel
theorem d_Mo_together_59 : decode c_Mo_together 59 = .ok (.goto (-57), 3) := by decide +kernel
theorem d_Mo_together_62 : decode c_Mo_together 62 = .ok (.iconst (-1), 1) := by decide +kernel
theorem d_Mo_together_63 : decode c_Mo_together 63 = .ok (.ireturn, 1) := by decide +kernel
theorem d_Mo_couldBe_0 : decode c_Mo_couldBe 0 = .ok (.iconst 1, 1) := by decide +kernel
theorem d_Mo_couldBe_1 : decode c_Mo_couldBe 1 = .ok (.istore_n 2, 1) := by decide +kernel
theorem d_Mo_couldBe_2 : decode c_Mo_couldBe 2 = .ok (.iconst 0, 1) := by decide +kernel
theorem d_Mo_couldBe_3 : decode c_Mo_couldBe 3 = .ok (.istore_n 3, 1) := by decide +kernel
theorem d_Mo_couldBe_4 : decode c_Mo_couldBe 4 = .ok (.iload_n 3, 1) := by decide +kernel
theorem d_Mo_couldBe_5 : decode c_Mo_couldBe 5 = .ok (.aload_n 0, 1) := by decide +kernel
theorem d_Mo_couldBe_6 : decode c_Mo_couldBe 6 = .ok (.getfield 100, 3) := by decide +kernel
theorem d_Mo_couldBe_9 : decode c_Mo_couldBe 9 = .ok (.if_icmp .ge 43, 3) := by decide +kernel
theorem d_Mo_couldBe_12 : decode c_Mo_couldBe 12 = .ok (.iload_n 2, 1) := by decide +kernel
theorem d_Mo_couldBe_13 : decode c_Mo_couldBe 13 = .ok (.ifCond .eq 31, 3) := by decide +kernel
theorem d_Mo_couldBe_16 : decode c_Mo_couldBe 16 = .ok (.aload_n 0, 1) := by decide +kernel
theorem d_Mo_couldBe_17 : decode c_Mo_couldBe 17 = .ok (.iload_n 1, 1) := by decide +kernel
theorem d_Mo_couldBe_18 : decode c_Mo_couldBe 18 = .ok (.invokevirtual 67, 3) := by decide +kernel
theorem d_Mo_couldBe_21 : decode c_Mo_couldBe 21 = .ok (.aload_n 0, 1) := by decide +kernel
theorem d_Mo_couldBe_22 : decode c_Mo_couldBe 22 = .ok (.getfield 36, 3) := by decide +kernel
theorem d_Mo_couldBe_25 : decode c_Mo_couldBe 25 = .ok (.iload_n 3, 1) := by decide +kernel
theorem d_Mo_couldBe_26 : decode c_Mo_couldBe 26 = .ok (.laload, 1) := by decide +kernel
theorem d_Mo_couldBe_27 : decode c_Mo_couldBe 27 = .ok (.lxor, 1) := by decide +kernel
theorem d_Mo_couldBe_28 : decode c_Mo_couldBe 28 = .ok (.invokestatic 71, 3) := by decide +kernel
theorem d_Mo_couldBe_31 : decode c_Mo_couldBe 31 = .ok (.aload_n 0, 1) := by decide +kernel
theorem d_Mo_couldBe_32 : decode c_Mo_couldBe 32 = .ok (.getfield 39, 3) := by decide +kernel
theorem d_Mo_couldBe_35 : decode c_Mo_couldBe 35 = .ok (.iload_n 3, 1) := by decide +kernel
theorem d_Mo_couldBe_36 : decode c_Mo_couldBe 36 = .ok (.iaload, 1) := by decide +kernel
theorem d_Mo_couldBe_37 : decode c_Mo_couldBe 37 = .ok (.if_icmp .ne 7, 3) := by decide +kernel
theorem d_Mo_couldBe_40 : decode c_Mo_couldBe 40 = .ok (.iconst 1, 1) := by decide +kernel
theorem d_Mo_couldBe_41 : decode c_Mo_couldBe 41 = .ok (.goto 4, 3) := by decide +kernel
theorem d_Mo_couldBe_44 : decode c_Mo_couldBe 44 = .ok (.iconst 0, 1) := by decide +kernel
theorem d_Mo_couldBe_45 : decode c_Mo_couldBe 45 = .ok (.istore_n 2, 1) := by decide +kernel
theorem d_Mo_couldBe_46 : decode c_Mo_couldBe 46 = .ok (.iinc 3 1, 3) := by decide +kernel
theorem d_Mo_couldBe_49 : decode c_Mo_couldBe 49 = .ok (.goto (-45), 3) := by decide +kernel
theorem d_Mo_couldBe_52 : decode c_Mo_couldBe 52 = .ok (.iload_n 2, 1) := by decide +kernel
theorem d_Mo_couldBe_53 : decode c_Mo_couldBe 53 = .ok (.ireturn, 1) := by decide +kernel
theorem d_Mo_could_0 : decode c_Mo_could 0 = .ok (.iconst 0, 1) := by decide +kernel
theorem d_Mo_could_1 : decode c_Mo_could 1 = .ok (.istore_n 2, 1) := by decide +kernel
theorem d_Mo_could_2 : decode c_Mo_could 2 = .ok (.iconst (-1), 1) := by decide +kernel
theorem d_Mo_could_3 : decode c_Mo_could 3 = .ok (.istore_n 3, 1) := by decide +kernel
theorem d_Mo_could_4 : decode c_Mo_could 4 = .ok (.aload_n 0, 1) := by decide +kernel
theorem d_Mo_could_5 : decode c_Mo_could 5 = .ok (.invokevirtual 59, 3) := by decide +kernel
theorem d_Mo_could_8 : decode c_Mo_could 8 = .ok (.iconst 1, 1) := by decide +kernel
theorem d_Mo_could_9 : decode c_Mo_could 9 = .ok (.isub, 1) := by decide +kernel
theorem d_Mo_could_10 : decode c_Mo_could 10 = .ok (.istore 4, 2) := by decide +kernel
theorem d_Mo_could_12 : decode c_Mo_could 12 = .ok (.iload 4, 2) := by decide +kernel
theorem d_Mo_could_14 : decode c_Mo_could 14 = .ok (.ifCond .lt 42, 3) := by decide +kernel
theorem d_Mo_could_17 : decode c_Mo_could 17 = .ok (.iload_n 2, 1) := by decide +kernel
theorem d_Mo_could_18 : decode c_Mo_could 18 = .ok (.aload_n 0, 1) := by decide +kernel
theorem d_Mo_could_19 : decode c_Mo_could 19 = .ok (.iload 4, 2) := by decide +kernel
theorem d_Mo_could_21 : decode c_Mo_could 21 = .ok (.invokevirtual 104, 3) := by decide +kernel
theorem d_Mo_could_24 : decode c_Mo_could 24 = .ok (.ifCond .eq 7, 3) := by decide +kernel
theorem d_Mo_could_27 : decode c_Mo_could 27 = .ok (.iconst 1, 1) := by decide +kernel
theorem d_Mo_could_28 : decode c_Mo_could 28 = .ok (.goto 4, 3) := by decide +kernel
theorem d_Mo_could_31 : decode c_Mo_could 31 = .ok (.iconst 0, 1) := by decide +kernel
theorem d_Mo_could_32 : decode c_Mo_could 32 = .ok (.iadd, 1) := by decide +kernel
theorem d_Mo_could_33 : decode c_Mo_could 33 = .ok (.istore_n 2, 1) := by decide +kernel
theorem d_Mo_could_34 : decode c_Mo_could 34 = .ok (.aload_n 0, 1) := by decide +kernel
theorem d_Mo_could_35 : decode c_Mo_could 35 = .ok (.iload 4, 2) := by decide +kernel
theorem d_Mo_could_37 : decode c_Mo_could 37 = .ok (.invokevirtual 104, 3) := by decide +kernel
theorem d_Mo_could_40 : decode c_Mo_could 40 = .ok (.ifCond .eq 8, 3) := by decide +kernel
theorem d_Mo_could_43 : decode c_Mo_could 43 = .ok (.iload 4, 2) := by decide +kernel
theorem d_Mo_could_45 : decode c_Mo_could 45 = .ok (.goto 4, 3) := by decide +kernel
theorem d_Mo_could_48 : decode c_Mo_could 48 = .ok (.iload_n 3, 1) := by decide +kernel
theorem d_Mo_could_49 : decode c_Mo_could 49 = .ok (.istore_n 3, 1) := by decide +kernel
theorem d_Mo_could_50 : decode c_Mo_could 50 = .ok (.iinc 4 (-1), 3) := by decide +kernel
theorem d_Mo_could_53 : decode c_Mo_could 53 = .ok (.goto (-41), 3) := by decide +kernel
theorem d_Mo_could_56 : decode c_Mo_could 56 = .ok (.iload_n 1, 1) := by decide +kernel
theorem d_Mo_could_57 : decode c_Mo_could 57 = .ok (.ifCond .eq 7, 3) := by decide +kernel
theorem d_Mo_could_60 : decode c_Mo_could 60 = .ok (.iload_n 3, 1) := by decide +kernel
theorem d_Mo_could_61 : decode c_Mo_could 61 = .ok (.goto 4, 3) := by decide +kernel
theorem d_Mo_could_64 : decode c_Mo_could 64 = .ok (.iload_n 2, 1) := by decide +kernel
theorem d_Mo_could_65 : decode c_Mo_could 65 = .ok (.ireturn, 1) := by decide +kernel
theorem d_Mo_asked_0 : decode c_Mo_asked 0 = .ok (.aload_n 0, 1) := by decide +kernel
theorem d_Mo_asked_1 : decode c_Mo_asked 1 = .ok (.iconst 0, 1) := by decide +kernel
theorem d_Mo_asked_2 : decode c_Mo_asked 2 = .ok (.invokevirtual 107, 3) := by decide +kernel
theorem d_Mo_asked_5 : decode c_Mo_asked 5 = .ok (.istore_n 1, 1) := by decide +kernel
theorem d_Mo_asked_6 : decode c_Mo_asked 6 = .ok (.iconst (-1), 1) := by decide +kernel
theorem d_Mo_asked_7 : decode c_Mo_asked 7 = .ok (.istore_n 2, 1) := by decide +kernel
theorem d_Mo_asked_8 : decode c_Mo_asked 8 = .ok (.iconst 0, 1) := by decide +kernel
theorem d_Mo_asked_9 : decode c_Mo_asked 9 = .ok (.istore_n 3, 1) := by decide +kernel
theorem d_Mo_asked_10 : decode c_Mo_asked 10 = .ok (.iload_n 3, 1) := by decide +kernel
theorem d_Mo_asked_11 : decode c_Mo_asked 11 = .ok (.aload_n 0, 1) := by decide +kernel
theorem d_Mo_asked_12 : decode c_Mo_asked 12 = .ok (.invokevirtual 59, 3) := by decide +kernel
theorem d_Mo_asked_15 : decode c_Mo_asked 15 = .ok (.if_icmp .ge 142, 3) := by decide +kernel
theorem d_Mo_asked_18 : decode c_Mo_asked 18 = .ok (.iconst 0, 1) := by decide +kernel
theorem d_Mo_asked_19 : decode c_Mo_asked 19 = .ok (.istore 4, 2) := by decide +kernel
theorem d_Mo_asked_21 : decode c_Mo_asked 21 = .ok (.iload 4, 2) := by decide +kernel
theorem d_Mo_asked_23 : decode c_Mo_asked 23 = .ok (.bipush 64, 2) := by decide +kernel
theorem d_Mo_asked_25 : decode c_Mo_asked 25 = .ok (.if_icmp .gt 17, 3) := by decide +kernel
theorem d_Mo_asked_28 : decode c_Mo_asked 28 = .ok (.aload_n 0, 1) := by decide +kernel
theorem d_Mo_asked_29 : decode c_Mo_asked 29 = .ok (.getfield 54, 3) := by decide +kernel
theorem d_Mo_asked_32 : decode c_Mo_asked 32 = .ok (.iload 4, 2) := by decide +kernel
theorem d_Mo_asked_34 : decode c_Mo_asked 34 = .ok (.iconst 0, 1) := by decide +kernel
theorem d_Mo_asked_35 : decode c_Mo_asked 35 = .ok (.iastore, 1) := by decide +kernel
theorem d_Mo_asked_36 : decode c_Mo_asked 36 = .ok (.iinc 4 1, 3) := by decide +kernel
theorem d_Mo_asked_39 : decode c_Mo_asked 39 = .ok (.goto (-18), 3) := by decide +kernel
theorem d_Mo_asked_42 : decode c_Mo_asked 42 = .ok (.iconst 0, 1) := by decide +kernel
theorem d_Mo_asked_43 : decode c_Mo_asked 43 = .ok (.istore 4, 2) := by decide +kernel
theorem d_Mo_asked_45 : decode c_Mo_asked 45 = .ok (.iconst 0, 1) := by decide +kernel
theorem d_Mo_asked_46 : decode c_Mo_asked 46 = .ok (.istore 5, 2) := by decide +kernel
theorem d_Mo_asked_48 : decode c_Mo_asked 48 = .ok (.iload 5, 2) := by decide +kernel
theorem d_Mo_asked_50 : decode c_Mo_asked 50 = .ok (.aload_n 0, 1) := by decide +kernel
theorem d_Mo_asked_51 : decode c_Mo_asked 51 = .ok (.invokevirtual 59, 3) := by decide +kernel
theorem d_Mo_asked_54 : decode c_Mo_asked 54 = .ok (.if_icmp .ge 72, 3) := by decide +kernel
theorem d_Mo_asked_57 : decode c_Mo_asked 57 = .ok (.aload_n 0, 1) := by decide +kernel
theorem d_Mo_asked_58 : decode c_Mo_asked 58 = .ok (.iload 5, 2) := by decide +kernel
theorem d_Mo_asked_60 : decode c_Mo_asked 60 = .ok (.invokevirtual 104, 3) := by decide +kernel
theorem d_Mo_asked_63 : decode c_Mo_asked 63 = .ok (.ifCond .eq 57, 3) := by decide +kernel
theorem d_Mo_asked_66 : decode c_Mo_asked 66 = .ok (.aload_n 0, 1) := by decide +kernel
theorem d_Mo_asked_67 : decode c_Mo_asked 67 = .ok (.iload 5, 2) := by decide +kernel
theorem d_Mo_asked_69 : decode c_Mo_asked 69 = .ok (.invokevirtual 67, 3) := by decide +kernel
theorem d_Mo_asked_72 : decode c_Mo_asked 72 = .ok (.aload_n 0, 1) := by decide +kernel
theorem d_Mo_asked_73 : decode c_Mo_asked 73 = .ok (.iload_n 3, 1) := by decide +kernel
theorem d_Mo_asked_74 : decode c_Mo_asked 74 = .ok (.invokevirtual 67, 3) := by decide +kernel
theorem d_Mo_asked_77 : decode c_Mo_asked 77 = .ok (.lxor, 1) := by decide +kernel
theorem d_Mo_asked_78 : decode c_Mo_asked 78 = .ok (.invokestatic 71, 3) := by decide +kernel
theorem d_Mo_asked_81 : decode c_Mo_asked 81 = .ok (.istore 6, 2) := by decide +kernel
theorem d_Mo_asked_83 : decode c_Mo_asked 83 = .ok (.aload_n 0, 1) := by decide +kernel
theorem d_Mo_asked_84 : decode c_Mo_asked 84 = .ok (.getfield 54, 3) := by decide +kernel
theorem d_Mo_asked_87 : decode c_Mo_asked 87 = .ok (.iload 6, 2) := by decide +kernel
theorem d_Mo_asked_89 : decode c_Mo_asked 89 = .ok (.dup2, 1) := by decide +kernel
theorem d_Mo_asked_90 : decode c_Mo_asked 90 = .ok (.iaload, 1) := by decide +kernel
theorem d_Mo_asked_91 : decode c_Mo_asked 91 = .ok (.iconst 1, 1) := by decide +kernel
theorem d_Mo_asked_92 : decode c_Mo_asked 92 = .ok (.iadd, 1) := by decide +kernel
theorem d_Mo_asked_93 : decode c_Mo_asked 93 = .ok (.iastore, 1) := by decide +kernel
theorem d_Mo_asked_94 : decode c_Mo_asked 94 = .ok (.aload_n 0, 1) := by decide +kernel
theorem d_Mo_asked_95 : decode c_Mo_asked 95 = .ok (.getfield 54, 3) := by decide +kernel
theorem d_Mo_asked_98 : decode c_Mo_asked 98 = .ok (.iload 6, 2) := by decide +kernel
theorem d_Mo_asked_100 : decode c_Mo_asked 100 = .ok (.iaload, 1) := by decide +kernel
theorem d_Mo_asked_101 : decode c_Mo_asked 101 = .ok (.iload 4, 2) := by decide +kernel
theorem d_Mo_asked_103 : decode c_Mo_asked 103 = .ok (.if_icmp .le 13, 3) := by decide +kernel
theorem d_Mo_asked_106 : decode c_Mo_asked 106 = .ok (.aload_n 0, 1) := by decide +kernel
theorem d_Mo_asked_107 : decode c_Mo_asked 107 = .ok (.getfield 54, 3) := by decide +kernel
theorem d_Mo_asked_110 : decode c_Mo_asked 110 = .ok (.iload 6, 2) := by decide +kernel
theorem d_Mo_asked_112 : decode c_Mo_asked 112 = .ok (.iaload, 1) := by decide +kernel
theorem d_Mo_asked_113 : decode c_Mo_asked 113 = .ok (.goto 5, 3) := by decide +kernel
theorem d_Mo_asked_116 : decode c_Mo_asked 116 = .ok (.iload 4, 2) := by decide +kernel
theorem d_Mo_asked_118 : decode c_Mo_asked 118 = .ok (.istore 4, 2) := by decide +kernel
theorem d_Mo_asked_120 : decode c_Mo_asked 120 = .ok (.iinc 5 1, 3) := by decide +kernel
theorem d_Mo_asked_123 : decode c_Mo_asked 123 = .ok (.goto (-75), 3) := by decide +kernel
theorem d_Mo_asked_126 : decode c_Mo_asked 126 = .ok (.iload 4, 2) := by decide +kernel
theorem d_Mo_asked_128 : decode c_Mo_asked 128 = .ok (.iload_n 1, 1) := by decide +kernel
theorem d_Mo_asked_129 : decode c_Mo_asked 129 = .ok (.if_icmp .ge 7, 3) := by decide +kernel
theorem d_Mo_asked_132 : decode c_Mo_asked 132 = .ok (.iload_n 3, 1) := by decide +kernel
theorem d_Mo_asked_133 : decode c_Mo_asked 133 = .ok (.goto 4, 3) := by decide +kernel
theorem d_Mo_asked_136 : decode c_Mo_asked 136 = .ok (.iload_n 2, 1) := by decide +kernel
theorem d_Mo_asked_137 : decode c_Mo_asked 137 = .ok (.istore_n 2, 1) := by decide +kernel
theorem d_Mo_asked_138 : decode c_Mo_asked 138 = .ok (.iload 4, 2) := by decide +kernel
theorem d_Mo_asked_140 : decode c_Mo_asked 140 = .ok (.iload_n 1, 1) := by decide +kernel
theorem d_Mo_asked_141 : decode c_Mo_asked 141 = .ok (.if_icmp .ge 8, 3) := by decide +kernel
theorem d_Mo_asked_144 : decode c_Mo_asked 144 = .ok (.iload 4, 2) := by decide +kernel
theorem d_Mo_asked_146 : decode c_Mo_asked 146 = .ok (.goto 4, 3) := by decide +kernel
theorem d_Mo_asked_149 : decode c_Mo_asked 149 = .ok (.iload_n 1, 1) := by decide +kernel
theorem d_Mo_asked_150 : decode c_Mo_asked 150 = .ok (.istore_n 1, 1) := by decide +kernel
theorem d_Mo_asked_151 : decode c_Mo_asked 151 = .ok (.iinc 3 1, 3) := by decide +kernel
theorem d_Mo_asked_154 : decode c_Mo_asked 154 = .ok (.goto (-144), 3) := by decide +kernel
theorem d_Mo_asked_157 : decode c_Mo_asked 157 = .ok (.iload_n 2, 1) := by decide +kernel
theorem d_Mo_asked_158 : decode c_Mo_asked 158 = .ok (.ireturn, 1) := by decide +kernel
theorem d_Mo_wrong_0 : decode c_Mo_wrong 0 = .ok (.iconst 0, 1) := by decide +kernel
theorem d_Mo_wrong_1 : decode c_Mo_wrong 1 = .ok (.istore_n 1, 1) := by decide +kernel
theorem d_Mo_wrong_2 : decode c_Mo_wrong 2 = .ok (.iload_n 1, 1) := by decide +kernel
theorem d_Mo_wrong_3 : decode c_Mo_wrong 3 = .ok (.aload_n 0, 1) := by decide +kernel
theorem d_Mo_wrong_4 : decode c_Mo_wrong 4 = .ok (.getfield 111, 3) := by decide +kernel
theorem d_Mo_wrong_7 : decode c_Mo_wrong 7 = .ok (.if_icmp .ge 80, 3) := by decide +kernel
theorem d_Mo_wrong_10 : decode c_Mo_wrong 10 = .ok (.aload_n 0, 1) := by decide +kernel
theorem d_Mo_wrong_11 : decode c_Mo_wrong 11 = .ok (.aload_n 0, 1) := by decide +kernel
theorem d_Mo_wrong_12 : decode c_Mo_wrong 12 = .ok (.getfield 42, 3) := by decide +kernel
theorem d_Mo_wrong_15 : decode c_Mo_wrong 15 = .ok (.iload_n 1, 1) := by decide +kernel
theorem d_Mo_wrong_16 : decode c_Mo_wrong 16 = .ok (.iaload, 1) := by decide +kernel
theorem d_Mo_wrong_17 : decode c_Mo_wrong 17 = .ok (.invokevirtual 114, 3) := by decide +kernel
theorem d_Mo_wrong_20 : decode c_Mo_wrong 20 = .ok (.ifCond .eq 20, 3) := by decide +kernel
theorem d_Mo_wrong_23 : decode c_Mo_wrong 23 = .ok (.aload_n 0, 1) := by decide +kernel
theorem d_Mo_wrong_24 : decode c_Mo_wrong 24 = .ok (.aload_n 0, 1) := by decide +kernel
theorem d_Mo_wrong_25 : decode c_Mo_wrong 25 = .ok (.getfield 45, 3) := by decide +kernel
theorem d_Mo_wrong_28 : decode c_Mo_wrong 28 = .ok (.iload_n 1, 1) := by decide +kernel
theorem d_Mo_wrong_29 : decode c_Mo_wrong 29 = .ok (.iaload, 1) := by decide +kernel
theorem d_Mo_wrong_30 : decode c_Mo_wrong 30 = .ok (.invokevirtual 114, 3) := by decide +kernel
theorem d_Mo_wrong_33 : decode c_Mo_wrong 33 = .ok (.ifCond .eq 7, 3) := by decide +kernel
theorem d_Mo_wrong_36 : decode c_Mo_wrong 36 = .ok (.iconst 1, 1) := by decide +kernel
theorem d_Mo_wrong_37 : decode c_Mo_wrong 37 = .ok (.goto 4, 3) := by decide +kernel
theorem d_Mo_wrong_40 : decode c_Mo_wrong 40 = .ok (.iconst 0, 1) := by decide +kernel
theorem d_Mo_wrong_41 : decode c_Mo_wrong 41 = .ok (.istore_n 2, 1) := by decide +kernel
theorem d_Mo_wrong_42 : decode c_Mo_wrong 42 = .ok (.iload_n 2, 1) := by decide +kernel
theorem d_Mo_wrong_43 : decode c_Mo_wrong 43 = .ok (.ifCond .eq 36, 3) := by decide +kernel
theorem d_Mo_wrong_46 : decode c_Mo_wrong 46 = .ok (.aload_n 0, 1) := by decide +kernel
theorem d_Mo_wrong_47 : decode c_Mo_wrong 47 = .ok (.aload_n 0, 1) := by decide +kernel
theorem d_Mo_wrong_48 : decode c_Mo_wrong 48 = .ok (.getfield 42, 3) := by decide +kernel
theorem d_Mo_wrong_51 : decode c_Mo_wrong 51 = .ok (.iload_n 1, 1) := by decide +kernel
theorem d_Mo_wrong_52 : decode c_Mo_wrong 52 = .ok (.iaload, 1) := by decide +kernel
theorem d_Mo_wrong_53 : decode c_Mo_wrong 53 = .ok (.invokevirtual 67, 3) := by decide +kernel
theorem d_Mo_wrong_56 : decode c_Mo_wrong 56 = .ok (.aload_n 0, 1) := by decide +kernel
theorem d_Mo_wrong_57 : decode c_Mo_wrong 57 = .ok (.aload_n 0, 1) := by decide +kernel
theorem d_Mo_wrong_58 : decode c_Mo_wrong 58 = .ok (.getfield 45, 3) := by decide +kernel
theorem d_Mo_wrong_61 : decode c_Mo_wrong 61 = .ok (.iload_n 1, 1) := by decide +kernel
theorem d_Mo_wrong_62 : decode c_Mo_wrong 62 = .ok (.iaload, 1) := by decide +kernel
theorem d_Mo_wrong_63 : decode c_Mo_wrong 63 = .ok (.invokevirtual 67, 3) := by decide +kernel
theorem d_Mo_wrong_66 : decode c_Mo_wrong 66 = .ok (.lxor, 1) := by decide +kernel
theorem d_Mo_wrong_67 : decode c_Mo_wrong 67 = .ok (.invokestatic 71, 3) := by decide +kernel
theorem d_Mo_wrong_70 : decode c_Mo_wrong 70 = .ok (.aload_n 0, 1) := by decide +kernel
theorem d_Mo_wrong_71 : decode c_Mo_wrong 71 = .ok (.getfield 48, 3) := by decide +kernel
theorem d_Mo_wrong_74 : decode c_Mo_wrong 74 = .ok (.iload_n 1, 1) := by decide +kernel
theorem d_Mo_wrong_75 : decode c_Mo_wrong 75 = .ok (.iaload, 1) := by decide +kernel
theorem d_Mo_wrong_76 : decode c_Mo_wrong 76 = .ok (.if_icmp .eq 5, 3) := by decide +kernel
theorem d_Mo_wrong_79 : decode c_Mo_wrong 79 = .ok (.iload_n 1, 1) := by decide +kernel
theorem d_Mo_wrong_80 : decode c_Mo_wrong 80 = .ok (.ireturn, 1) := by decide +kernel
theorem d_Mo_wrong_81 : decode c_Mo_wrong 81 = .ok (.iinc 1 1, 3) := by decide +kernel
theorem d_Mo_wrong_84 : decode c_Mo_wrong 84 = .ok (.goto (-82), 3) := by decide +kernel
theorem d_Mo_wrong_87 : decode c_Mo_wrong 87 = .ok (.iconst (-1), 1) := by decide +kernel
theorem d_Mo_wrong_88 : decode c_Mo_wrong 88 = .ok (.ireturn, 1) := by decide +kernel
theorem d_Mo_first_0 : decode c_Mo_first 0 = .ok (.aload_n 0, 1) := by decide +kernel
theorem d_Mo_first_1 : decode c_Mo_first 1 = .ok (.iconst 0, 1) := by decide +kernel
theorem d_Mo_first_2 : decode c_Mo_first 2 = .ok (.invokevirtual 117, 3) := by decide +kernel
theorem d_Mo_first_5 : decode c_Mo_first 5 = .ok (.istore_n 2, 1) := by decide +kernel
theorem d_Mo_first_6 : decode c_Mo_first 6 = .ok (.iload_n 2, 1) := by decide +kernel
theorem d_Mo_first_7 : decode c_Mo_first 7 = .ok (.iconst (-1), 1) := by decide +kernel
theorem d_Mo_first_8 : decode c_Mo_first 8 = .ok (.if_icmp .eq 7, 3) := by decide +kernel
theorem d_Mo_first_11 : decode c_Mo_first 11 = .ok (.iload_n 1, 1) := by decide +kernel
theorem d_Mo_first_12 : decode c_Mo_first 12 = .ok (.ifCond .ne 7, 3) := by decide +kernel
theorem d_Mo_first_15 : decode c_Mo_first 15 = .ok (.iload_n 2, 1) := by decide +kernel
theorem d_Mo_first_16 : decode c_Mo_first 16 = .ok (.goto 8, 3) := by decide +kernel
theorem d_Mo_first_19 : decode c_Mo_first 19 = .ok (.aload_n 0, 1) := by decide +kernel
theorem d_Mo_first_20 : decode c_Mo_first 20 = .ok (.iload_n 2, 1) := by decide +kernel
theorem d_Mo_first_21 : decode c_Mo_first 21 = .ok (.invokevirtual 82, 3) := by decide +kernel
theorem d_Mo_first_24 : decode c_Mo_first 24 = .ok (.ireturn, 1) := by decide +kernel
theorem d_Mo_told_0 : decode c_Mo_told 0 = .ok (.iload_n 1, 1) := by decide +kernel
theorem d_Mo_told_1 : decode c_Mo_told 1 = .ok (.tableswitch 196 0 16 #[83, 88, 93, 103, 114, 114, 129, 129, 145, 150, 155, 160, 160, 176, 181, 186, 191], 83) := by decide +kernel
theorem d_Mo_told_84 : decode c_Mo_told 84 = .ok (.aload_n 0, 1) := by decide +kernel
theorem d_Mo_told_85 : decode c_Mo_told 85 = .ok (.invokevirtual 59, 3) := by decide +kernel
theorem d_Mo_told_88 : decode c_Mo_told 88 = .ok (.ireturn, 1) := by decide +kernel
theorem d_Mo_told_89 : decode c_Mo_told 89 = .ok (.aload_n 0, 1) := by decide +kernel
theorem d_Mo_told_90 : decode c_Mo_told 90 = .ok (.invokevirtual 86, 3) := by decide +kernel
theorem d_Mo_told_93 : decode c_Mo_told 93 = .ok (.ireturn, 1) := by decide +kernel
theorem d_Mo_told_94 : decode c_Mo_told 94 = .ok (.aload_n 0, 1) := by decide +kernel
theorem d_Mo_told_95 : decode c_Mo_told 95 = .ok (.getfield 7, 3) := by decide +kernel
theorem d_Mo_told_98 : decode c_Mo_told 98 = .ok (.iconst 0, 1) := by decide +kernel
theorem d_Mo_told_99 : decode c_Mo_told 99 = .ok (.laload, 1) := by decide +kernel
theorem d_Mo_told_100 : decode c_Mo_told 100 = .ok (.invokestatic 71, 3) := by decide +kernel
theorem d_Mo_told_103 : decode c_Mo_told 103 = .ok (.ireturn, 1) := by decide +kernel
theorem d_Mo_told_104 : decode c_Mo_told 104 = .ok (.aload_n 0, 1) := by decide +kernel
theorem d_Mo_told_105 : decode c_Mo_told 105 = .ok (.aload_n 0, 1) := by decide +kernel
theorem d_Mo_told_106 : decode c_Mo_told 106 = .ok (.getfield 7, 3) := by decide +kernel
theorem d_Mo_told_109 : decode c_Mo_told 109 = .ok (.iconst 0, 1) := by decide +kernel
theorem d_Mo_told_110 : decode c_Mo_told 110 = .ok (.laload, 1) := by decide +kernel
theorem d_Mo_told_111 : decode c_Mo_told 111 = .ok (.invokevirtual 120, 3) := by decide +kernel
theorem d_Mo_told_114 : decode c_Mo_told 114 = .ok (.ireturn, 1) := by decide +kernel
theorem d_Mo_told_115 : decode c_Mo_told 115 = .ok (.aload_n 0, 1) := by decide +kernel
theorem d_Mo_told_116 : decode c_Mo_told 116 = .ok (.iload_n 1, 1) := by decide +kernel
theorem d_Mo_told_117 : decode c_Mo_told 117 = .ok (.iconst 5, 1) := by decide +kernel
theorem d_Mo_told_118 : decode c_Mo_told 118 = .ok (.if_icmp .ne 7, 3) := by decide +kernel
theorem d_Mo_told_121 : decode c_Mo_told 121 = .ok (.iconst 1, 1) := by decide +kernel
theorem d_Mo_told_122 : decode c_Mo_told 122 = .ok (.goto 4, 3) := by decide +kernel
theorem d_Mo_told_125 : decode c_Mo_told 125 = .ok (.iconst 0, 1) := by decide +kernel
theorem d_Mo_told_126 : decode c_Mo_told 126 = .ok (.invokevirtual 123, 3) := by decide +kernel
theorem d_Mo_told_129 : decode c_Mo_told 129 = .ok (.ireturn, 1) := by decide +kernel
theorem d_Mo_told_130 : decode c_Mo_told 130 = .ok (.aload_n 0, 1) := by decide +kernel
theorem d_Mo_told_131 : decode c_Mo_told 131 = .ok (.iload_n 1, 1) := by decide +kernel
theorem d_Mo_told_132 : decode c_Mo_told 132 = .ok (.bipush 7, 2) := by decide +kernel
theorem d_Mo_told_134 : decode c_Mo_told 134 = .ok (.if_icmp .ne 7, 3) := by decide +kernel
theorem d_Mo_told_137 : decode c_Mo_told 137 = .ok (.iconst 1, 1) := by decide +kernel
theorem d_Mo_told_138 : decode c_Mo_told 138 = .ok (.goto 4, 3) := by decide +kernel
theorem d_Mo_told_141 : decode c_Mo_told 141 = .ok (.iconst 0, 1) := by decide +kernel
theorem d_Mo_told_142 : decode c_Mo_told 142 = .ok (.invokevirtual 126, 3) := by decide +kernel
theorem d_Mo_told_145 : decode c_Mo_told 145 = .ok (.ireturn, 1) := by decide +kernel
theorem d_Mo_told_146 : decode c_Mo_told 146 = .ok (.aload_n 0, 1) := by decide +kernel
theorem d_Mo_told_147 : decode c_Mo_told 147 = .ok (.invokevirtual 129, 3) := by decide +kernel
theorem d_Mo_told_150 : decode c_Mo_told 150 = .ok (.ireturn, 1) := by decide +kernel
theorem d_Mo_told_151 : decode c_Mo_told 151 = .ok (.aload_n 0, 1) := by decide +kernel
theorem d_Mo_told_152 : decode c_Mo_told 152 = .ok (.invokevirtual 132, 3) := by decide +kernel
theorem d_Mo_told_155 : decode c_Mo_told 155 = .ok (.ireturn, 1) := by decide +kernel
theorem d_Mo_told_156 : decode c_Mo_told 156 = .ok (.aload_n 0, 1) := by decide +kernel
theorem d_Mo_told_157 : decode c_Mo_told 157 = .ok (.getfield 100, 3) := by decide +kernel
theorem d_Mo_told_160 : decode c_Mo_told 160 = .ok (.ireturn, 1) := by decide +kernel
theorem d_Mo_told_161 : decode c_Mo_told 161 = .ok (.aload_n 0, 1) := by decide +kernel
theorem d_Mo_told_162 : decode c_Mo_told 162 = .ok (.iload_n 1, 1) := by decide +kernel
theorem d_Mo_told_163 : decode c_Mo_told 163 = .ok (.bipush 12, 2) := by decide +kernel
theorem d_Mo_told_165 : decode c_Mo_told 165 = .ok (.if_icmp .ne 7, 3) := by decide +kernel
theorem d_Mo_told_168 : decode c_Mo_told 168 = .ok (.iconst 1, 1) := by decide +kernel
theorem d_Mo_told_169 : decode c_Mo_told 169 = .ok (.goto 4, 3) := by decide +kernel
theorem d_Mo_told_172 : decode c_Mo_told 172 = .ok (.iconst 0, 1) := by decide +kernel
theorem d_Mo_told_173 : decode c_Mo_told 173 = .ok (.invokevirtual 107, 3) := by decide +kernel
theorem d_Mo_told_176 : decode c_Mo_told 176 = .ok (.ireturn, 1) := by decide +kernel
theorem d_Mo_told_177 : decode c_Mo_told 177 = .ok (.aload_n 0, 1) := by decide +kernel
theorem d_Mo_told_178 : decode c_Mo_told 178 = .ok (.invokevirtual 135, 3) := by decide +kernel
theorem d_Mo_told_181 : decode c_Mo_told 181 = .ok (.ireturn, 1) := by decide +kernel
theorem d_Mo_told_182 : decode c_Mo_told 182 = .ok (.aload_n 0, 1) := by decide +kernel
theorem d_Mo_told_183 : decode c_Mo_told 183 = .ok (.getfield 111, 3) := by decide +kernel
theorem d_Mo_told_186 : decode c_Mo_told 186 = .ok (.ireturn, 1) := by decide +kernel
theorem d_Mo_told_187 : decode c_Mo_told 187 = .ok (.aload_n 0, 1) := by decide +kernel
theorem d_Mo_told_188 : decode c_Mo_told 188 = .ok (.invokevirtual 138, 3) := by decide +kernel
theorem d_Mo_told_191 : decode c_Mo_told 191 = .ok (.ireturn, 1) := by decide +kernel
theorem d_Mo_told_192 : decode c_Mo_told 192 = .ok (.aload_n 0, 1) := by decide +kernel
theorem d_Mo_told_193 : decode c_Mo_told 193 = .ok (.getfield 141, 3) := by decide +kernel
theorem d_Mo_told_196 : decode c_Mo_told 196 = .ok (.ireturn, 1) := by decide +kernel
theorem d_Mo_told_197 : decode c_Mo_told 197 = .ok (.ldc 144, 2) := by decide +kernel
theorem d_Mo_told_199 : decode c_Mo_told 199 = .ok (.ireturn, 1) := by decide +kernel
theorem d_Mo_hand_0 : decode c_Mo_hand 0 = .ok (.aload_n 0, 1) := by decide +kernel
theorem d_Mo_hand_1 : decode c_Mo_hand 1 = .ok (.getfield 7, 3) := by decide +kernel
theorem d_Mo_hand_4 : decode c_Mo_hand 4 = .ok (.iconst 0, 1) := by decide +kernel
theorem d_Mo_hand_5 : decode c_Mo_hand 5 = .ok (.laload, 1) := by decide +kernel
theorem d_Mo_hand_6 : decode c_Mo_hand 6 = .ok (.lreturn, 1) := by decide +kernel
theorem d_Mo_markAt_0 : decode c_Mo_markAt 0 = .ok (.aload_n 0, 1) := by decide +kernel
theorem d_Mo_markAt_1 : decode c_Mo_markAt 1 = .ok (.iload_n 1, 1) := by decide +kernel
theorem d_Mo_markAt_2 : decode c_Mo_markAt 2 = .ok (.invokevirtual 114, 3) := by decide +kernel
theorem d_Mo_markAt_5 : decode c_Mo_markAt 5 = .ok (.ifCond .eq 11, 3) := by decide +kernel
theorem d_Mo_markAt_8 : decode c_Mo_markAt 8 = .ok (.aload_n 0, 1) := by decide +kernel
theorem d_Mo_markAt_9 : decode c_Mo_markAt 9 = .ok (.iload_n 1, 1) := by decide +kernel
theorem d_Mo_markAt_10 : decode c_Mo_markAt 10 = .ok (.invokevirtual 67, 3) := by decide +kernel
theorem d_Mo_markAt_13 : decode c_Mo_markAt 13 = .ok (.goto 4, 3) := by decide +kernel
theorem d_Mo_markAt_16 : decode c_Mo_markAt 16 = .ok (.lconst 0, 1) := by decide +kernel
theorem d_Mo_markAt_17 : decode c_Mo_markAt 17 = .ok (.lreturn, 1) := by decide +kernel
theorem d_Mo_mark_0 : decode c_Mo_mark 0 = .ok (.aload_n 0, 1) := by decide +kernel
theorem d_Mo_mark_1 : decode c_Mo_mark 1 = .ok (.iload_n 1, 1) := by decide +kernel
theorem d_Mo_mark_2 : decode c_Mo_mark 2 = .ok (.invokevirtual 114, 3) := by decide +kernel
theorem d_Mo_mark_5 : decode c_Mo_mark 5 = .ok (.ifCond .ne 6, 3) := by decide +kernel
theorem d_Mo_mark_8 : decode c_Mo_mark 8 = .ok (.ldc 145, 2) := by decide +kernel
theorem d_Mo_mark_10 : decode c_Mo_mark 10 = .ok (.ireturn, 1) := by decide +kernel
theorem d_Mo_mark_11 : decode c_Mo_mark 11 = .ok (.iload_n 2, 1) := by decide +kernel
theorem d_Mo_mark_12 : decode c_Mo_mark 12 = .ok (.tableswitch 145 0 4 #[36, 43, 52, 58, 116], 36) := by decide +kernel
theorem d_Mo_mark_48 : decode c_Mo_mark 48 = .ok (.aload_n 0, 1) := by decide +kernel
theorem d_Mo_mark_49 : decode c_Mo_mark 49 = .ok (.getfield 13, 3) := by decide +kernel
theorem d_Mo_mark_52 : decode c_Mo_mark 52 = .ok (.iload_n 1, 1) := by decide +kernel
theorem d_Mo_mark_53 : decode c_Mo_mark 53 = .ok (.iaload, 1) := by decide +kernel
theorem d_Mo_mark_54 : decode c_Mo_mark 54 = .ok (.ireturn, 1) := by decide +kernel
theorem d_Mo_mark_55 : decode c_Mo_mark 55 = .ok (.aload_n 0, 1) := by decide +kernel
theorem d_Mo_mark_56 : decode c_Mo_mark 56 = .ok (.iload_n 1, 1) := by decide +kernel
theorem d_Mo_mark_57 : decode c_Mo_mark 57 = .ok (.invokevirtual 67, 3) := by decide +kernel
theorem d_Mo_mark_60 : decode c_Mo_mark 60 = .ok (.invokestatic 71, 3) := by decide +kernel
theorem d_Mo_mark_63 : decode c_Mo_mark 63 = .ok (.ireturn, 1) := by decide +kernel
theorem d_Mo_mark_64 : decode c_Mo_mark 64 = .ok (.aload_n 0, 1) := by decide +kernel
theorem d_Mo_mark_65 : decode c_Mo_mark 65 = .ok (.iload_n 1, 1) := by decide +kernel
theorem d_Mo_mark_66 : decode c_Mo_mark 66 = .ok (.invokevirtual 82, 3) := by decide +kernel
theorem d_Mo_mark_69 : decode c_Mo_mark 69 = .ok (.ireturn, 1) := by decide +kernel
theorem d_Mo_mark_70 : decode c_Mo_mark 70 = .ok (.iconst 0, 1) := by decide +kernel
theorem d_Mo_mark_71 : decode c_Mo_mark 71 = .ok (.istore_n 3, 1) := by decide +kernel
theorem d_Mo_mark_72 : decode c_Mo_mark 72 = .ok (.iconst 0, 1) := by decide +kernel
theorem d_Mo_mark_73 : decode c_Mo_mark 73 = .ok (.istore 4, 2) := by decide +kernel
theorem d_Mo_mark_75 : decode c_Mo_mark 75 = .ok (.iload 4, 2) := by decide +kernel
theorem d_Mo_mark_77 : decode c_Mo_mark 77 = .ok (.aload_n 0, 1) := by decide +kernel
theorem d_Mo_mark_78 : decode c_Mo_mark 78 = .ok (.invokevirtual 59, 3) := by decide +kernel
theorem d_Mo_mark_81 : decode c_Mo_mark 81 = .ok (.if_icmp .ge 45, 3) := by decide +kernel
theorem d_Mo_mark_84 : decode c_Mo_mark 84 = .ok (.iload_n 3, 1) := by decide +kernel
theorem d_Mo_mark_85 : decode c_Mo_mark 85 = .ok (.iload 4, 2) := by decide +kernel
theorem d_Mo_mark_87 : decode c_Mo_mark 87 = .ok (.iload_n 1, 1) := by decide +kernel
theorem d_Mo_mark_88 : decode c_Mo_mark 88 = .ok (.if_icmp .eq 29, 3) := by decide +kernel
theorem d_Mo_mark_91 : decode c_Mo_mark 91 = .ok (.aload_n 0, 1) := by decide +kernel
theorem d_Mo_mark_92 : decode c_Mo_mark 92 = .ok (.iload 4, 2) := by decide +kernel
theorem d_Mo_mark_94 : decode c_Mo_mark 94 = .ok (.invokevirtual 67, 3) := by decide +kernel
theorem d_Mo_mark_97 : decode c_Mo_mark 97 = .ok (.aload_n 0, 1) := by decide +kernel
theorem d_Mo_mark_98 : decode c_Mo_mark 98 = .ok (.iload_n 1, 1) := by decide +kernel
theorem d_Mo_mark_99 : decode c_Mo_mark 99 = .ok (.invokevirtual 67, 3) := by decide +kernel
theorem d_Mo_mark_102 : decode c_Mo_mark 102 = .ok (.lxor, 1) := by decide +kernel
theorem d_Mo_mark_103 : decode c_Mo_mark 103 = .ok (.invokestatic 71, 3) := by decide +kernel
theorem d_Mo_mark_106 : decode c_Mo_mark 106 = .ok (.aload_n 0, 1) := by decide +kernel
theorem d_Mo_mark_107 : decode c_Mo_mark 107 = .ok (.invokevirtual 86, 3) := by decide +kernel
theorem d_Mo_mark_110 : decode c_Mo_mark 110 = .ok (.if_icmp .ge 7, 3) := by decide +kernel
theorem d_Mo_mark_113 : decode c_Mo_mark 113 = .ok (.iconst 1, 1) := by decide +kernel
theorem d_Mo_mark_114 : decode c_Mo_mark 114 = .ok (.goto 4, 3) := by decide +kernel
theorem d_Mo_mark_117 : decode c_Mo_mark 117 = .ok (.iconst 0, 1) := by decide +kernel
theorem d_Mo_mark_118 : decode c_Mo_mark 118 = .ok (.iadd, 1) := by decide +kernel
theorem d_Mo_mark_119 : decode c_Mo_mark 119 = .ok (.istore_n 3, 1) := by decide +kernel
theorem d_Mo_mark_120 : decode c_Mo_mark 120 = .ok (.iinc 4 1, 3) := by decide +kernel
theorem d_Mo_mark_123 : decode c_Mo_mark 123 = .ok (.goto (-48), 3) := by decide +kernel
theorem d_Mo_mark_126 : decode c_Mo_mark 126 = .ok (.iload_n 3, 1) := by decide +kernel
theorem d_Mo_mark_127 : decode c_Mo_mark 127 = .ok (.ireturn, 1) := by decide +kernel
theorem d_Mo_mark_128 : decode c_Mo_mark 128 = .ok (.aload_n 0, 1) := by decide +kernel
theorem d_Mo_mark_129 : decode c_Mo_mark 129 = .ok (.iload_n 1, 1) := by decide +kernel
theorem d_Mo_mark_130 : decode c_Mo_mark 130 = .ok (.invokevirtual 67, 3) := by decide +kernel
theorem d_Mo_mark_133 : decode c_Mo_mark 133 = .ok (.aload_n 0, 1) := by decide +kernel
theorem d_Mo_mark_134 : decode c_Mo_mark 134 = .ok (.getfield 7, 3) := by decide +kernel
theorem d_Mo_mark_137 : decode c_Mo_mark 137 = .ok (.iconst 0, 1) := by decide +kernel
theorem d_Mo_mark_138 : decode c_Mo_mark 138 = .ok (.laload, 1) := by decide +kernel
theorem d_Mo_mark_139 : decode c_Mo_mark 139 = .ok (.aload_n 0, 1) := by decide +kernel
theorem d_Mo_mark_140 : decode c_Mo_mark 140 = .ok (.getfield 7, 3) := by decide +kernel
theorem d_Mo_mark_143 : decode c_Mo_mark 143 = .ok (.iconst 1, 1) := by decide +kernel
theorem d_Mo_mark_144 : decode c_Mo_mark 144 = .ok (.laload, 1) := by decide +kernel
theorem d_Mo_mark_145 : decode c_Mo_mark 145 = .ok (.invokestatic 79, 3) := by decide +kernel
theorem d_Mo_mark_148 : decode c_Mo_mark 148 = .ok (.ifCond .eq 7, 3) := by decide +kernel
theorem d_Mo_mark_151 : decode c_Mo_mark 151 = .ok (.iconst 1, 1) := by decide +kernel
theorem d_Mo_mark_152 : decode c_Mo_mark 152 = .ok (.goto 4, 3) := by decide +kernel
theorem d_Mo_mark_155 : decode c_Mo_mark 155 = .ok (.iconst 0, 1) := by decide +kernel
theorem d_Mo_mark_156 : decode c_Mo_mark 156 = .ok (.ireturn, 1) := by decide +kernel
theorem d_Mo_mark_157 : decode c_Mo_mark 157 = .ok (.ldc 144, 2) := by decide +kernel
theorem d_Mo_mark_159 : decode c_Mo_mark 159 = .ok (.ireturn, 1) := by decide +kernel
theorem d_Mo_beginOf_0 : decode c_Mo_beginOf 0 = .ok (.iload_n 1, 1) := by decide +kernel
theorem d_Mo_beginOf_1 : decode c_Mo_beginOf 1 = .ok (.istore_n 2, 1) := by decide +kernel
theorem d_Mo_beginOf_2 : decode c_Mo_beginOf 2 = .ok (.iconst 0, 1) := by decide +kernel
theorem d_Mo_beginOf_3 : decode c_Mo_beginOf 3 = .ok (.istore_n 3, 1) := by decide +kernel
theorem d_Mo_beginOf_4 : decode c_Mo_beginOf 4 = .ok (.aload_n 0, 1) := by decide +kernel
theorem d_Mo_beginOf_5 : decode c_Mo_beginOf 5 = .ok (.getfield 7, 3) := by decide +kernel
theorem d_Mo_beginOf_8 : decode c_Mo_beginOf 8 = .ok (.iconst 1, 1) := by decide +kernel
theorem d_Mo_beginOf_9 : decode c_Mo_beginOf 9 = .ok (.laload, 1) := by decide +kernel
theorem d_Mo_beginOf_10 : decode c_Mo_beginOf 10 = .ok (.iload_n 3, 1) := by decide +kernel
theorem d_Mo_beginOf_11 : decode c_Mo_beginOf 11 = .ok (.invokestatic 75, 3) := by decide +kernel
theorem d_Mo_beginOf_14 : decode c_Mo_beginOf 14 = .ok (.ifCond .eq 7, 3) := by decide +kernel
theorem d_Mo_beginOf_17 : decode c_Mo_beginOf 17 = .ok (.iload_n 2, 1) := by decide +kernel
theorem d_Mo_beginOf_18 : decode c_Mo_beginOf 18 = .ok (.ifCond .le 30, 3) := by decide +kernel
theorem d_Mo_beginOf_21 : decode c_Mo_beginOf 21 = .ok (.iload_n 2, 1) := by decide +kernel
theorem d_Mo_beginOf_22 : decode c_Mo_beginOf 22 = .ok (.aload_n 0, 1) := by decide +kernel
theorem d_Mo_beginOf_23 : decode c_Mo_beginOf 23 = .ok (.getfield 7, 3) := by decide +kernel
theorem d_Mo_beginOf_26 : decode c_Mo_beginOf 26 = .ok (.iconst 1, 1) := by decide +kernel
theorem d_Mo_beginOf_27 : decode c_Mo_beginOf 27 = .ok (.laload, 1) := by decide +kernel
theorem d_Mo_beginOf_28 : decode c_Mo_beginOf 28 = .ok (.iload_n 3, 1) := by decide +kernel
theorem d_Mo_beginOf_29 : decode c_Mo_beginOf 29 = .ok (.invokestatic 75, 3) := by decide +kernel
theorem d_Mo_beginOf_32 : decode c_Mo_beginOf 32 = .ok (.ifCond .eq 7, 3) := by decide +kernel
theorem d_Mo_beginOf_35 : decode c_Mo_beginOf 35 = .ok (.iconst 1, 1) := by decide +kernel
theorem d_Mo_beginOf_36 : decode c_Mo_beginOf 36 = .ok (.goto 4, 3) := by decide +kernel
theorem d_Mo_beginOf_39 : decode c_Mo_beginOf 39 = .ok (.iconst 0, 1) := by decide +kernel
theorem d_Mo_beginOf_40 : decode c_Mo_beginOf 40 = .ok (.isub, 1) := by decide +kernel
theorem d_Mo_beginOf_41 : decode c_Mo_beginOf 41 = .ok (.istore_n 2, 1) := by decide +kernel
theorem d_Mo_beginOf_42 : decode c_Mo_beginOf 42 = .ok (.iinc 3 1, 3) := by decide +kernel
theorem d_Mo_beginOf_45 : decode c_Mo_beginOf 45 = .ok (.goto (-41), 3) := by decide +kernel
theorem d_Mo_beginOf_48 : decode c_Mo_beginOf 48 = .ok (.iload_n 3, 1) := by decide +kernel
theorem d_Mo_beginOf_49 : decode c_Mo_beginOf 49 = .ok (.ireturn, 1) := by decide +kernel
theorem d_Mo_endOf_0 : decode c_Mo_endOf 0 = .ok (.iload_n 1, 1) := by decide +kernel
theorem d_Mo_endOf_1 : decode c_Mo_endOf 1 = .ok (.iconst 1, 1) := by decide +kernel
theorem d_Mo_endOf_2 : decode c_Mo_endOf 2 = .ok (.iadd, 1) := by decide +kernel
theorem d_Mo_endOf_3 : decode c_Mo_endOf 3 = .ok (.aload_n 0, 1) := by decide +kernel
theorem d_Mo_endOf_4 : decode c_Mo_endOf 4 = .ok (.invokevirtual 86, 3) := by decide +kernel
theorem d_Mo_endOf_7 : decode c_Mo_endOf 7 = .ok (.if_icmp .ge 13, 3) := by decide +kernel
theorem d_Mo_endOf_10 : decode c_Mo_endOf 10 = .ok (.aload_n 0, 1) := by decide +kernel
theorem d_Mo_endOf_11 : decode c_Mo_endOf 11 = .ok (.iload_n 1, 1) := by decide +kernel
theorem d_Mo_endOf_12 : decode c_Mo_endOf 12 = .ok (.iconst 1, 1) := by decide +kernel
theorem d_Mo_endOf_13 : decode c_Mo_endOf 13 = .ok (.iadd, 1) := by decide +kernel
theorem d_Mo_endOf_14 : decode c_Mo_endOf 14 = .ok (.invokevirtual 146, 3) := by decide +kernel
theorem d_Mo_endOf_17 : decode c_Mo_endOf 17 = .ok (.goto 5, 3) := by decide +kernel
theorem d_Mo_endOf_20 : decode c_Mo_endOf 20 = .ok (.bipush 64, 2) := by decide +kernel
theorem d_Mo_endOf_22 : decode c_Mo_endOf 22 = .ok (.ireturn, 1) := by decide +kernel
theorem d_Mo_have_0 : decode c_Mo_have 0 = .ok (.iconst 0, 1) := by decide +kernel
theorem d_Mo_have_1 : decode c_Mo_have 1 = .ok (.istore_n 2, 1) := by decide +kernel
theorem d_Mo_have_2 : decode c_Mo_have 2 = .ok (.iconst 0, 1) := by decide +kernel
theorem d_Mo_have_3 : decode c_Mo_have 3 = .ok (.istore_n 3, 1) := by decide +kernel
theorem d_Mo_have_4 : decode c_Mo_have 4 = .ok (.iload_n 3, 1) := by decide +kernel
theorem d_Mo_have_5 : decode c_Mo_have 5 = .ok (.aload_n 0, 1) := by decide +kernel
theorem d_Mo_have_6 : decode c_Mo_have 6 = .ok (.invokevirtual 59, 3) := by decide +kernel
theorem d_Mo_have_9 : decode c_Mo_have 9 = .ok (.if_icmp .ge 84, 3) := by decide +kernel
theorem d_Mo_have_12 : decode c_Mo_have 12 = .ok (.iconst 1, 1) := by decide +kernel
theorem d_Mo_have_13 : decode c_Mo_have 13 = .ok (.istore 4, 2) := by decide +kernel
theorem d_Mo_have_15 : decode c_Mo_have 15 = .ok (.aload_n 0, 1) := by decide +kernel
theorem d_Mo_have_16 : decode c_Mo_have 16 = .ok (.iload_n 1, 1) := by decide +kernel
theorem d_Mo_have_17 : decode c_Mo_have 17 = .ok (.invokevirtual 146, 3) := by decide +kernel
theorem d_Mo_have_20 : decode c_Mo_have 20 = .ok (.istore 5, 2) := by decide +kernel
theorem d_Mo_have_22 : decode c_Mo_have 22 = .ok (.iload 5, 2) := by decide +kernel
theorem d_Mo_have_24 : decode c_Mo_have 24 = .ok (.aload_n 0, 1) := by decide +kernel
theorem d_Mo_have_25 : decode c_Mo_have 25 = .ok (.iload_n 1, 1) := by decide +kernel
theorem d_Mo_have_26 : decode c_Mo_have 26 = .ok (.invokevirtual 149, 3) := by decide +kernel
theorem d_Mo_have_29 : decode c_Mo_have 29 = .ok (.if_icmp .ge 45, 3) := by decide +kernel
theorem d_Mo_have_32 : decode c_Mo_have 32 = .ok (.iload 4, 2) := by decide +kernel
theorem d_Mo_have_34 : decode c_Mo_have 34 = .ok (.ifCond .eq 31, 3) := by decide +kernel
theorem d_Mo_have_37 : decode c_Mo_have 37 = .ok (.aload_n 0, 1) := by decide +kernel
theorem d_Mo_have_38 : decode c_Mo_have 38 = .ok (.iload_n 3, 1) := by decide +kernel
theorem d_Mo_have_39 : decode c_Mo_have 39 = .ok (.invokevirtual 67, 3) := by decide +kernel
theorem d_Mo_have_42 : decode c_Mo_have 42 = .ok (.iload 5, 2) := by decide +kernel
theorem d_Mo_have_44 : decode c_Mo_have 44 = .ok (.invokestatic 75, 3) := by decide +kernel
theorem d_Mo_have_47 : decode c_Mo_have 47 = .ok (.aload_n 0, 1) := by decide +kernel
theorem d_Mo_have_48 : decode c_Mo_have 48 = .ok (.getfield 7, 3) := by decide +kernel
theorem d_Mo_have_51 : decode c_Mo_have 51 = .ok (.iconst 0, 1) := by decide +kernel
theorem d_Mo_have_52 : decode c_Mo_have 52 = .ok (.laload, 1) := by decide +kernel
theorem d_Mo_have_53 : decode c_Mo_have 53 = .ok (.iload 5, 2) := by decide +kernel
theorem d_Mo_have_55 : decode c_Mo_have 55 = .ok (.invokestatic 75, 3) := by decide +kernel
theorem d_Mo_have_58 : decode c_Mo_have 58 = .ok (.if_icmp .ne 7, 3) := by decide +kernel
theorem d_Mo_have_61 : decode c_Mo_have 61 = .ok (.iconst 1, 1) := by decide +kernel
theorem d_Mo_have_62 : decode c_Mo_have 62 = .ok (.goto 4, 3) := by decide +kernel
theorem d_Mo_have_65 : decode c_Mo_have 65 = .ok (.iconst 0, 1) := by decide +kernel
theorem d_Mo_have_66 : decode c_Mo_have 66 = .ok (.istore 4, 2) := by decide +kernel
theorem d_Mo_have_68 : decode c_Mo_have 68 = .ok (.iinc 5 1, 3) := by decide +kernel
theorem d_Mo_have_71 : decode c_Mo_have 71 = .ok (.goto (-49), 3) := by decide +kernel
theorem d_Mo_have_74 : decode c_Mo_have 74 = .ok (.iload_n 2, 1) := by decide +kernel
theorem d_Mo_have_75 : decode c_Mo_have 75 = .ok (.iload 4, 2) := by decide +kernel
theorem d_Mo_have_77 : decode c_Mo_have 77 = .ok (.ifCond .eq 7, 3) := by decide +kernel
theorem d_Mo_have_80 : decode c_Mo_have 80 = .ok (.iconst 1, 1) := by decide +kernel
theorem d_Mo_have_81 : decode c_Mo_have 81 = .ok (.goto 4, 3) := by decide +kernel
theorem d_Mo_have_84 : decode c_Mo_have 84 = .ok (.iconst 0, 1) := by decide +kernel
theorem d_Mo_have_85 : decode c_Mo_have 85 = .ok (.iadd, 1) := by decide +kernel
theorem d_Mo_have_86 : decode c_Mo_have 86 = .ok (.istore_n 2, 1) := by decide +kernel
theorem d_Mo_have_87 : decode c_Mo_have 87 = .ok (.iinc 3 1, 3) := by decide +kernel
theorem d_Mo_have_90 : decode c_Mo_have 90 = .ok (.goto (-86), 3) := by decide +kernel
theorem d_Mo_have_93 : decode c_Mo_have 93 = .ok (.iload_n 2, 1) := by decide +kernel
theorem d_Mo_have_94 : decode c_Mo_have 94 = .ok (.ireturn, 1) := by decide +kernel
theorem d_Mo_part_0 : decode c_Mo_part 0 = .ok (.iload_n 1, 1) := by decide +kernel
theorem d_Mo_part_1 : decode c_Mo_part 1 = .ok (.i2l, 1) := by decide +kernel
theorem d_Mo_part_2 : decode c_Mo_part 2 = .ok (.lconst 0, 1) := by decide +kernel
theorem d_Mo_part_3 : decode c_Mo_part 3 = .ok (.aload_n 0, 1) := by decide +kernel
theorem d_Mo_part_4 : decode c_Mo_part 4 = .ok (.invokevirtual 86, 3) := by decide +kernel
theorem d_Mo_part_7 : decode c_Mo_part 7 = .ok (.iconst 1, 1) := by decide +kernel
theorem d_Mo_part_8 : decode c_Mo_part 8 = .ok (.isub, 1) := by decide +kernel
theorem d_Mo_part_9 : decode c_Mo_part 9 = .ok (.i2l, 1) := by decide +kernel
theorem d_Mo_part_10 : decode c_Mo_part 10 = .ok (.invokestatic 63, 3) := by decide +kernel
theorem d_Mo_part_13 : decode c_Mo_part 13 = .ok (.ifCond .ne 6, 3) := by decide +kernel
theorem d_Mo_part_16 : decode c_Mo_part 16 = .ok (.ldc 145, 2) := by decide +kernel
theorem d_Mo_part_18 : decode c_Mo_part 18 = .ok (.ireturn, 1) := by decide +kernel
theorem d_Mo_part_19 : decode c_Mo_part 19 = .ok (.iload_n 2, 1) := by decide +kernel
theorem d_Mo_part_20 : decode c_Mo_part 20 = .ok (.tableswitch 52 0 2 #[28, 34, 46], 28) := by decide +kernel
theorem d_Mo_part_48 : decode c_Mo_part 48 = .ok (.aload_n 0, 1) := by decide +kernel
theorem d_Mo_part_49 : decode c_Mo_part 49 = .ok (.iload_n 1, 1) := by decide +kernel
theorem d_Mo_part_50 : decode c_Mo_part 50 = .ok (.invokevirtual 146, 3) := by decide +kernel
theorem d_Mo_part_53 : decode c_Mo_part 53 = .ok (.ireturn, 1) := by decide +kernel
theorem d_Mo_part_54 : decode c_Mo_part 54 = .ok (.aload_n 0, 1) := by decide +kernel
theorem d_Mo_part_55 : decode c_Mo_part 55 = .ok (.iload_n 1, 1) := by decide +kernel
theorem d_Mo_part_56 : decode c_Mo_part 56 = .ok (.invokevirtual 149, 3) := by decide +kernel
theorem d_Mo_part_59 : decode c_Mo_part 59 = .ok (.aload_n 0, 1) := by decide +kernel
theorem d_Mo_part_60 : decode c_Mo_part 60 = .ok (.iload_n 1, 1) := by decide +kernel
theorem d_Mo_part_61 : decode c_Mo_part 61 = .ok (.invokevirtual 146, 3) := by decide +kernel
theorem d_Mo_part_64 : decode c_Mo_part 64 = .ok (.isub, 1) := by decide +kernel
theorem d_Mo_part_65 : decode c_Mo_part 65 = .ok (.ireturn, 1) := by decide +kernel
theorem d_Mo_part_66 : decode c_Mo_part 66 = .ok (.aload_n 0, 1) := by decide +kernel
theorem d_Mo_part_67 : decode c_Mo_part 67 = .ok (.iload_n 1, 1) := by decide +kernel
theorem d_Mo_part_68 : decode c_Mo_part 68 = .ok (.invokevirtual 152, 3) := by decide +kernel
theorem d_Mo_part_71 : decode c_Mo_part 71 = .ok (.ireturn, 1) := by decide +kernel
theorem d_Mo_part_72 : decode c_Mo_part 72 = .ok (.ldc 144, 2) := by decide +kernel
theorem d_Mo_part_74 : decode c_Mo_part 74 = .ok (.ireturn, 1) := by decide +kernel
theorem d_Mo_note_0 : decode c_Mo_note 0 = .ok (.aload_n 0, 1) := by decide +kernel
theorem d_Mo_note_1 : decode c_Mo_note 1 = .ok (.getfield 141, 3) := by decide +kernel
theorem d_Mo_note_4 : decode c_Mo_note 4 = .ok (.bipush 20, 2) := by decide +kernel
theorem d_Mo_note_6 : decode c_Mo_note 6 = .ok (.if_icmp .ne 73, 3) := by decide +kernel
theorem d_Mo_note_9 : decode c_Mo_note 9 = .ok (.iconst 0, 1) := by decide +kernel
theorem d_Mo_note_10 : decode c_Mo_note 10 = .ok (.istore_n 1, 1) := by decide +kernel
theorem d_Mo_note_11 : decode c_Mo_note 11 = .ok (.iload_n 1, 1) := by decide +kernel
theorem d_Mo_note_12 : decode c_Mo_note 12 = .ok (.sipush 817, 3) := by decide +kernel
theorem d_Mo_note_15 : decode c_Mo_note 15 = .ok (.if_icmp .ge 24, 3) := by decide +kernel
theorem d_Mo_note_18 : decode c_Mo_note 18 = .ok (.aload_n 0, 1) := by decide +kernel
theorem d_Mo_note_19 : decode c_Mo_note 19 = .ok (.getfield 17, 3) := by decide +kernel
theorem d_Mo_note_22 : decode c_Mo_note 22 = .ok (.iload_n 1, 1) := by decide +kernel
theorem d_Mo_note_23 : decode c_Mo_note 23 = .ok (.aload_n 0, 1) := by decide +kernel
theorem d_Mo_note_24 : decode c_Mo_note 24 = .ok (.getfield 17, 3) := by decide +kernel
theorem d_Mo_note_27 : decode c_Mo_note 27 = .ok (.iload_n 1, 1) := by decide +kernel
theorem d_Mo_note_28 : decode c_Mo_note 28 = .ok (.bipush 43, 2) := by decide +kernel
theorem d_Mo_note_30 : decode c_Mo_note 30 = .ok (.iadd, 1) := by decide +kernel
theorem d_Mo_note_31 : decode c_Mo_note 31 = .ok (.laload, 1) := by decide +kernel
theorem d_Mo_note_32 : decode c_Mo_note 32 = .ok (.lastore, 1) := by decide +kernel
theorem d_Mo_note_33 : decode c_Mo_note 33 = .ok (.iinc 1 1, 3) := by decide +kernel
theorem d_Mo_note_36 : decode c_Mo_note 36 = .ok (.goto (-25), 3) := by decide +kernel
theorem d_Mo_note_39 : decode c_Mo_note 39 = .ok (.iconst 0, 1) := by decide +kernel
theorem d_Mo_note_40 : decode c_Mo_note 40 = .ok (.istore_n 1, 1) := by decide +kernel
theorem d_Mo_note_41 : decode c_Mo_note 41 = .ok (.iload_n 1, 1) := by decide +kernel
theorem d_Mo_note_42 : decode c_Mo_note 42 = .ok (.sipush 760, 3) := by decide +kernel
theorem d_Mo_note_45 : decode c_Mo_note 45 = .ok (.if_icmp .ge 24, 3) := by decide +kernel
theorem d_Mo_note_48 : decode c_Mo_note 48 = .ok (.aload_n 0, 1) := by decide +kernel
theorem d_Mo_note_49 : decode c_Mo_note 49 = .ok (.getfield 20, 3) := by decide +kernel
theorem d_Mo_note_52 : decode c_Mo_note 52 = .ok (.iload_n 1, 1) := by decide +kernel
theorem d_Mo_note_53 : decode c_Mo_note 53 = .ok (.aload_n 0, 1) := by decide +kernel
theorem d_Mo_note_54 : decode c_Mo_note 54 = .ok (.getfield 20, 3) := by decide +kernel
theorem d_Mo_note_57 : decode c_Mo_note 57 = .ok (.iload_n 1, 1) := by decide +kernel
theorem d_Mo_note_58 : decode c_Mo_note 58 = .ok (.bipush 40, 2) := by decide +kernel
theorem d_Mo_note_60 : decode c_Mo_note 60 = .ok (.iadd, 1) := by decide +kernel
theorem d_Mo_note_61 : decode c_Mo_note 61 = .ok (.iaload, 1) := by decide +kernel
theorem d_Mo_note_62 : decode c_Mo_note 62 = .ok (.iastore, 1) := by decide +kernel
theorem d_Mo_note_63 : decode c_Mo_note 63 = .ok (.iinc 1 1, 3) := by decide +kernel
theorem d_Mo_note_66 : decode c_Mo_note 66 = .ok (.goto (-25), 3) := by decide +kernel
theorem d_Mo_note_69 : decode c_Mo_note 69 = .ok (.aload_n 0, 1) := by decide +kernel
theorem d_Mo_note_70 : decode c_Mo_note 70 = .ok (.dup, 1) := by decide +kernel
theorem d_Mo_note_71 : decode c_Mo_note 71 = .ok (.getfield 141, 3) := by decide +kernel
theorem d_Mo_note_74 : decode c_Mo_note 74 = .ok (.iconst 1, 1) := by decide +kernel
theorem d_Mo_note_75 : decode c_Mo_note 75 = .ok (.isub, 1) := by decide +kernel
theorem d_Mo_note_76 : decode c_Mo_note 76 = .ok (.putfield 141, 3) := by decide +kernel
theorem d_Mo_note_79 : decode c_Mo_note 79 = .ok (.aload_n 0, 1) := by decide +kernel
theorem d_Mo_note_80 : decode c_Mo_note 80 = .ok (.aload_n 0, 1) := by decide +kernel
theorem d_Mo_note_81 : decode c_Mo_note 81 = .ok (.getfield 17, 3) := by decide +kernel
theorem d_Mo_note_84 : decode c_Mo_note 84 = .ok (.aload_n 0, 1) := by decide +kernel
theorem d_Mo_note_85 : decode c_Mo_note 85 = .ok (.getfield 20, 3) := by decide +kernel
theorem d_Mo_note_88 : decode c_Mo_note 88 = .ok (.aload_n 0, 1) := by decide +kernel
theorem d_Mo_note_89 : decode c_Mo_note 89 = .ok (.getfield 141, 3) := by decide +kernel
theorem d_Mo_note_92 : decode c_Mo_note 92 = .ok (.invokevirtual 155, 3) := by decide +kernel
theorem d_Mo_note_95 : decode c_Mo_note 95 = .ok (.aload_n 0, 1) := by decide +kernel
theorem d_Mo_note_96 : decode c_Mo_note 96 = .ok (.dup, 1) := by decide +kernel
theorem d_Mo_note_97 : decode c_Mo_note 97 = .ok (.getfield 141, 3) := by decide +kernel
theorem d_Mo_note_100 : decode c_Mo_note 100 = .ok (.iconst 1, 1) := by decide +kernel
theorem d_Mo_note_101 : decode c_Mo_note 101 = .ok (.iadd, 1) := by decide +kernel
theorem d_Mo_note_102 : decode c_Mo_note 102 = .ok (.putfield 141, 3) := by decide +kernel
theorem d_Mo_note_105 : decode c_Mo_note 105 = .ok (.return_, 1) := by decide +kernel
theorem d_Mo_lay_0 : decode c_Mo_lay 0 = .ok (.iconst 0, 1) := by decide +kernel
theorem d_Mo_lay_1 : decode c_Mo_lay 1 = .ok (.istore 4, 2) := by decide +kernel
theorem d_Mo_lay_3 : decode c_Mo_lay 3 = .ok (.iload 4, 2) := by decide +kernel
theorem d_Mo_lay_5 : decode c_Mo_lay 5 = .ok (.bipush 43, 2) := by decide +kernel
theorem d_Mo_lay_7 : decode c_Mo_lay 7 = .ok (.if_icmp .ge 25, 3) := by decide +kernel
theorem d_Mo_lay_10 : decode c_Mo_lay 10 = .ok (.aload_n 1, 1) := by decide +kernel
theorem d_Mo_lay_11 : decode c_Mo_lay 11 = .ok (.bipush 43, 2) := by decide +kernel
theorem d_Mo_lay_13 : decode c_Mo_lay 13 = .ok (.iload_n 3, 1) := by decide +kernel
theorem d_Mo_lay_14 : decode c_Mo_lay 14 = .ok (.imul, 1) := by decide +kernel
theorem d_Mo_lay_15 : decode c_Mo_lay 15 = .ok (.iload 4, 2) := by decide +kernel
theorem d_Mo_lay_17 : decode c_Mo_lay 17 = .ok (.iadd, 1) := by decide +kernel
theorem d_Mo_lay_18 : decode c_Mo_lay 18 = .ok (.aload_n 0, 1) := by decide +kernel
theorem d_Mo_lay_19 : decode c_Mo_lay 19 = .ok (.getfield 7, 3) := by decide +kernel
theorem d_Mo_lay_22 : decode c_Mo_lay 22 = .ok (.iload 4, 2) := by decide +kernel
theorem d_Mo_lay_24 : decode c_Mo_lay 24 = .ok (.laload, 1) := by decide +kernel
theorem d_Mo_lay_25 : decode c_Mo_lay 25 = .ok (.lastore, 1) := by decide +kernel
theorem d_Mo_lay_26 : decode c_Mo_lay 26 = .ok (.iinc 4 1, 3) := by decide +kernel
theorem d_Mo_lay_29 : decode c_Mo_lay 29 = .ok (.goto (-26), 3) := by decide +kernel
theorem d_Mo_lay_32 : decode c_Mo_lay 32 = .ok (.iconst 0, 1) := by decide +kernel
theorem d_Mo_lay_33 : decode c_Mo_lay 33 = .ok (.istore 4, 2) := by decide +kernel
theorem d_Mo_lay_35 : decode c_Mo_lay 35 = .ok (.iload 4, 2) := by decide +kernel
theorem d_Mo_lay_37 : decode c_Mo_lay 37 = .ok (.bipush 40, 2) := by decide +kernel
theorem d_Mo_lay_39 : decode c_Mo_lay 39 = .ok (.if_icmp .ge 25, 3) := by decide +kernel
theorem d_Mo_lay_42 : decode c_Mo_lay 42 = .ok (.aload_n 2, 1) := by decide +kernel
theorem d_Mo_lay_43 : decode c_Mo_lay 43 = .ok (.bipush 40, 2) := by decide +kernel
theorem d_Mo_lay_45 : decode c_Mo_lay 45 = .ok (.iload_n 3, 1) := by decide +kernel
theorem d_Mo_lay_46 : decode c_Mo_lay 46 = .ok (.imul, 1) := by decide +kernel
theorem d_Mo_lay_47 : decode c_Mo_lay 47 = .ok (.iload 4, 2) := by decide +kernel
theorem d_Mo_lay_49 : decode c_Mo_lay 49 = .ok (.iadd, 1) := by decide +kernel
theorem d_Mo_lay_50 : decode c_Mo_lay 50 = .ok (.aload_n 0, 1) := by decide +kernel
theorem d_Mo_lay_51 : decode c_Mo_lay 51 = .ok (.getfield 13, 3) := by decide +kernel
theorem d_Mo_lay_54 : decode c_Mo_lay 54 = .ok (.iload 4, 2) := by decide +kernel
theorem d_Mo_lay_56 : decode c_Mo_lay 56 = .ok (.iaload, 1) := by decide +kernel
theorem d_Mo_lay_57 : decode c_Mo_lay 57 = .ok (.iastore, 1) := by decide +kernel
theorem d_Mo_lay_58 : decode c_Mo_lay 58 = .ok (.iinc 4 1, 3) := by decide +kernel
theorem d_Mo_lay_61 : decode c_Mo_lay 61 = .ok (.goto (-26), 3) := by decide +kernel
theorem d_Mo_lay_64 : decode c_Mo_lay 64 = .ok (.return_, 1) := by decide +kernel
theorem d_Mo_become_0 : decode c_Mo_become 0 = .ok (.iconst 0, 1) := by decide +kernel
theorem d_Mo_become_1 : decode c_Mo_become 1 = .ok (.istore 4, 2) := by decide +kernel
theorem d_Mo_become_3 : decode c_Mo_become 3 = .ok (.iload 4, 2) := by decide +kernel
theorem d_Mo_become_5 : decode c_Mo_become 5 = .ok (.bipush 43, 2) := by decide +kernel
theorem d_Mo_become_7 : decode c_Mo_become 7 = .ok (.if_icmp .ge 25, 3) := by decide +kernel
theorem d_Mo_become_10 : decode c_Mo_become 10 = .ok (.aload_n 0, 1) := by decide +kernel
theorem d_Mo_become_11 : decode c_Mo_become 11 = .ok (.getfield 7, 3) := by decide +kernel
theorem d_Mo_become_14 : decode c_Mo_become 14 = .ok (.iload 4, 2) := by decide +kernel
theorem d_Mo_become_16 : decode c_Mo_become 16 = .ok (.aload_n 1, 1) := by decide +kernel
theorem d_Mo_become_17 : decode c_Mo_become 17 = .ok (.bipush 43, 2) := by decide +kernel
theorem d_Mo_become_19 : decode c_Mo_become 19 = .ok (.iload_n 3, 1) := by decide +kernel
theorem d_Mo_become_20 : decode c_Mo_become 20 = .ok (.imul, 1) := by decide +kernel
theorem d_Mo_become_21 : decode c_Mo_become 21 = .ok (.iload 4, 2) := by decide +kernel
theorem d_Mo_become_23 : decode c_Mo_become 23 = .ok (.iadd, 1) := by decide +kernel
theorem d_Mo_become_24 : decode c_Mo_become 24 = .ok (.laload, 1) := by decide +kernel
theorem d_Mo_become_25 : decode c_Mo_become 25 = .ok (.lastore, 1) := by decide +kernel
theorem d_Mo_become_26 : decode c_Mo_become 26 = .ok (.iinc 4 1, 3) := by decide +kernel
theorem d_Mo_become_29 : decode c_Mo_become 29 = .ok (.goto (-26), 3) := by decide +kernel
theorem d_Mo_become_32 : decode c_Mo_become 32 = .ok (.iconst 0, 1) := by decide +kernel
theorem d_Mo_become_33 : decode c_Mo_become 33 = .ok (.istore 4, 2) := by decide +kernel
theorem d_Mo_become_35 : decode c_Mo_become 35 = .ok (.iload 4, 2) := by decide +kernel
theorem d_Mo_become_37 : decode c_Mo_become 37 = .ok (.bipush 40, 2) := by decide +kernel
theorem d_Mo_become_39 : decode c_Mo_become 39 = .ok (.if_icmp .ge 25, 3) := by decide +kernel
theorem d_Mo_become_42 : decode c_Mo_become 42 = .ok (.aload_n 0, 1) := by decide +kernel
theorem d_Mo_become_43 : decode c_Mo_become 43 = .ok (.getfield 13, 3) := by decide +kernel
theorem d_Mo_become_46 : decode c_Mo_become 46 = .ok (.iload 4, 2) := by decide +kernel
theorem d_Mo_become_48 : decode c_Mo_become 48 = .ok (.aload_n 2, 1) := by decide +kernel
theorem d_Mo_become_49 : decode c_Mo_become 49 = .ok (.bipush 40, 2) := by decide +kernel
theorem d_Mo_become_51 : decode c_Mo_become 51 = .ok (.iload_n 3, 1) := by decide +kernel
theorem d_Mo_become_52 : decode c_Mo_become 52 = .ok (.imul, 1) := by decide +kernel
theorem d_Mo_become_53 : decode c_Mo_become 53 = .ok (.iload 4, 2) := by decide +kernel
theorem d_Mo_become_55 : decode c_Mo_become 55 = .ok (.iadd, 1) := by decide +kernel
theorem d_Mo_become_56 : decode c_Mo_become 56 = .ok (.iaload, 1) := by decide +kernel
theorem d_Mo_become_57 : decode c_Mo_become 57 = .ok (.iastore, 1) := by decide +kernel
theorem d_Mo_become_58 : decode c_Mo_become 58 = .ok (.iinc 4 1, 3) := by decide +kernel
theorem d_Mo_become_61 : decode c_Mo_become 61 = .ok (.goto (-26), 3) := by decide +kernel
theorem d_Mo_become_64 : decode c_Mo_become 64 = .ok (.return_, 1) := by decide +kernel
theorem d_Mo_type_0 : decode c_Mo_type 0 = .ok (.iload_n 1, 1) := by decide +kernel
theorem d_Mo_type_1 : decode c_Mo_type 1 = .ok (.i2l, 1) := by decide +kernel
theorem d_Mo_type_2 : decode c_Mo_type 2 = .ok (.lconst 0, 1) := by decide +kernel
theorem d_Mo_type_3 : decode c_Mo_type 3 = .ok (.ldc2_w 159, 3) := by decide +kernel
theorem d_Mo_type_6 : decode c_Mo_type 6 = .ok (.invokestatic 63, 3) := by decide +kernel
theorem d_Mo_type_9 : decode c_Mo_type 9 = .ok (.ifCond .eq 15, 3) := by decide +kernel
theorem d_Mo_type_12 : decode c_Mo_type 12 = .ok (.iload_n 2, 1) := by decide +kernel
theorem d_Mo_type_13 : decode c_Mo_type 13 = .ok (.i2l, 1) := by decide +kernel
theorem d_Mo_type_14 : decode c_Mo_type 14 = .ok (.lconst 0, 1) := by decide +kernel
theorem d_Mo_type_15 : decode c_Mo_type 15 = .ok (.ldc2_w 161, 3) := by decide +kernel
theorem d_Mo_type_18 : decode c_Mo_type 18 = .ok (.invokestatic 63, 3) := by decide +kernel
theorem d_Mo_type_21 : decode c_Mo_type 21 = .ok (.ifCond .ne 6, 3) := by decide +kernel
theorem d_Mo_type_24 : decode c_Mo_type 24 = .ok (.ldc 144, 2) := by decide +kernel
theorem d_Mo_type_26 : decode c_Mo_type 26 = .ok (.ireturn, 1) := by decide +kernel
theorem d_Mo_type_27 : decode c_Mo_type 27 = .ok (.aload_n 0, 1) := by decide +kernel
theorem d_Mo_type_28 : decode c_Mo_type 28 = .ok (.invokevirtual 163, 3) := by decide +kernel
theorem d_Mo_type_31 : decode c_Mo_type 31 = .ok (.aload_n 0, 1) := by decide +kernel
theorem d_Mo_type_32 : decode c_Mo_type 32 = .ok (.getfield 7, 3) := by decide +kernel
theorem d_Mo_type_35 : decode c_Mo_type 35 = .ok (.iconst 0, 1) := by decide +kernel
theorem d_Mo_type_36 : decode c_Mo_type 36 = .ok (.aload_n 0, 1) := by decide +kernel
theorem d_Mo_type_37 : decode c_Mo_type 37 = .ok (.getfield 7, 3) := by decide +kernel
theorem d_Mo_type_40 : decode c_Mo_type 40 = .ok (.iconst 0, 1) := by decide +kernel
theorem d_Mo_type_41 : decode c_Mo_type 41 = .ok (.laload, 1) := by decide +kernel
theorem d_Mo_type_42 : decode c_Mo_type 42 = .ok (.ldc2_w 161, 3) := by decide +kernel
theorem d_Mo_type_45 : decode c_Mo_type 45 = .ok (.bipush 8, 2) := by decide +kernel
theorem d_Mo_type_47 : decode c_Mo_type 47 = .ok (.iload_n 1, 1) := by decide +kernel
theorem d_Mo_type_48 : decode c_Mo_type 48 = .ok (.imul, 1) := by decide +kernel
theorem d_Mo_type_49 : decode c_Mo_type 49 = .ok (.lshl, 1) := by decide +kernel
theorem d_Mo_type_50 : decode c_Mo_type 50 = .ok (.ldc2_w 166, 3) := by decide +kernel
theorem d_Mo_type_53 : decode c_Mo_type 53 = .ok (.lxor, 1) := by decide +kernel
theorem d_Mo_type_54 : decode c_Mo_type 54 = .ok (.land, 1) := by decide +kernel
theorem d_Mo_type_55 : decode c_Mo_type 55 = .ok (.iload_n 2, 1) := by decide +kernel
theorem d_Mo_type_56 : decode c_Mo_type 56 = .ok (.i2l, 1) := by decide +kernel
theorem d_Mo_type_57 : decode c_Mo_type 57 = .ok (.bipush 8, 2) := by decide +kernel
theorem d_Mo_type_59 : decode c_Mo_type 59 = .ok (.iload_n 1, 1) := by decide +kernel
theorem d_Mo_type_60 : decode c_Mo_type 60 = .ok (.imul, 1) := by decide +kernel
theorem d_Mo_type_61 : decode c_Mo_type 61 = .ok (.lshl, 1) := by decide +kernel
theorem d_Mo_type_62 : decode c_Mo_type 62 = .ok (.lor, 1) := by decide +kernel
theorem d_Mo_type_63 : decode c_Mo_type 63 = .ok (.lastore, 1) := by decide +kernel
theorem d_Mo_type_64 : decode c_Mo_type 64 = .ok (.aload_n 0, 1) := by decide +kernel
theorem d_Mo_type_65 : decode c_Mo_type 65 = .ok (.getfield 7, 3) := by decide +kernel
theorem d_Mo_type_68 : decode c_Mo_type 68 = .ok (.iconst 0, 1) := by decide +kernel
theorem d_Mo_type_69 : decode c_Mo_type 69 = .ok (.laload, 1) := by decide +kernel
theorem d_Mo_type_70 : decode c_Mo_type 70 = .ok (.invokestatic 71, 3) := by decide +kernel
theorem d_Mo_type_73 : decode c_Mo_type 73 = .ok (.ireturn, 1) := by decide +kernel
theorem d_Mo_flip_0 : decode c_Mo_flip 0 = .ok (.iload_n 1, 1) := by decide +kernel
theorem d_Mo_flip_1 : decode c_Mo_flip 1 = .ok (.i2l, 1) := by decide +kernel
theorem d_Mo_flip_2 : decode c_Mo_flip 2 = .ok (.lconst 0, 1) := by decide +kernel
theorem d_Mo_flip_3 : decode c_Mo_flip 3 = .ok (.ldc2_w 168, 3) := by decide +kernel
theorem d_Mo_flip_6 : decode c_Mo_flip 6 = .ok (.invokestatic 63, 3) := by decide +kernel
theorem d_Mo_flip_9 : decode c_Mo_flip 9 = .ok (.ifCond .ne 6, 3) := by decide +kernel
theorem d_Mo_flip_12 : decode c_Mo_flip 12 = .ok (.ldc 144, 2) := by decide +kernel
theorem d_Mo_flip_14 : decode c_Mo_flip 14 = .ok (.ireturn, 1) := by decide +kernel
theorem d_Mo_flip_15 : decode c_Mo_flip 15 = .ok (.aload_n 0, 1) := by decide +kernel
theorem d_Mo_flip_16 : decode c_Mo_flip 16 = .ok (.invokevirtual 163, 3) := by decide +kernel
theorem d_Mo_flip_19 : decode c_Mo_flip 19 = .ok (.aload_n 0, 1) := by decide +kernel
theorem d_Mo_flip_20 : decode c_Mo_flip 20 = .ok (.getfield 7, 3) := by decide +kernel
theorem d_Mo_flip_23 : decode c_Mo_flip 23 = .ok (.iconst 0, 1) := by decide +kernel
theorem d_Mo_flip_24 : decode c_Mo_flip 24 = .ok (.aload_n 0, 1) := by decide +kernel
theorem d_Mo_flip_25 : decode c_Mo_flip 25 = .ok (.getfield 7, 3) := by decide +kernel
theorem d_Mo_flip_28 : decode c_Mo_flip 28 = .ok (.iconst 0, 1) := by decide +kernel
theorem d_Mo_flip_29 : decode c_Mo_flip 29 = .ok (.laload, 1) := by decide +kernel
theorem d_Mo_flip_30 : decode c_Mo_flip 30 = .ok (.lconst 1, 1) := by decide +kernel
theorem d_Mo_flip_31 : decode c_Mo_flip 31 = .ok (.iload_n 1, 1) := by decide +kernel
theorem d_Mo_flip_32 : decode c_Mo_flip 32 = .ok (.lshl, 1) := by decide +kernel
theorem d_Mo_flip_33 : decode c_Mo_flip 33 = .ok (.lxor, 1) := by decide +kernel
theorem d_Mo_flip_34 : decode c_Mo_flip 34 = .ok (.lastore, 1) := by decide +kernel
theorem d_Mo_flip_35 : decode c_Mo_flip 35 = .ok (.aload_n 0, 1) := by decide +kernel
theorem d_Mo_flip_36 : decode c_Mo_flip 36 = .ok (.getfield 7, 3) := by decide +kernel
theorem d_Mo_flip_39 : decode c_Mo_flip 39 = .ok (.iconst 0, 1) := by decide +kernel
theorem d_Mo_flip_40 : decode c_Mo_flip 40 = .ok (.laload, 1) := by decide +kernel
theorem d_Mo_flip_41 : decode c_Mo_flip 41 = .ok (.invokestatic 71, 3) := by decide +kernel
theorem d_Mo_flip_44 : decode c_Mo_flip 44 = .ok (.ireturn, 1) := by decide +kernel
theorem d_Mo_row_0 : decode c_Mo_row 0 = .ok (.aload_n 0, 1) := by decide +kernel
theorem d_Mo_row_1 : decode c_Mo_row 1 = .ok (.getfield 7, 3) := by decide +kernel
theorem d_Mo_row_4 : decode c_Mo_row 4 = .ok (.iconst 0, 1) := by decide +kernel
theorem d_Mo_row_5 : decode c_Mo_row 5 = .ok (.laload, 1) := by decide +kernel
theorem d_Mo_row_6 : decode c_Mo_row 6 = .ok (.ldc2_w 161, 3) := by decide +kernel
theorem d_Mo_row_9 : decode c_Mo_row 9 = .ok (.land, 1) := by decide +kernel
theorem d_Mo_row_10 : decode c_Mo_row 10 = .ok (.l2i, 1) := by decide +kernel
theorem d_Mo_row_11 : decode c_Mo_row 11 = .ok (.ireturn, 1) := by decide +kernel
theorem d_Mo_turn_0 : decode c_Mo_turn 0 = .ok (.aload_n 0, 1) := by decide +kernel
theorem d_Mo_turn_1 : decode c_Mo_turn 1 = .ok (.invokevirtual 163, 3) := by decide +kernel
theorem d_Mo_turn_4 : decode c_Mo_turn 4 = .ok (.lconst 0, 1) := by decide +kernel
theorem d_Mo_turn_5 : decode c_Mo_turn 5 = .ok (.lstore_n 1, 1) := by decide +kernel
theorem d_Mo_turn_6 : decode c_Mo_turn 6 = .ok (.iconst 0, 1) := by decide +kernel
theorem d_Mo_turn_7 : decode c_Mo_turn 7 = .ok (.istore_n 3, 1) := by decide +kernel
theorem d_Mo_turn_8 : decode c_Mo_turn 8 = .ok (.iload_n 3, 1) := by decide +kernel
