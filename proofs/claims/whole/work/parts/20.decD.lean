theorem d_Mo_turn_9 : decode c_Mo_turn 9 = .ok (.bipush 64, 2) := by decide +kernel
theorem d_Mo_turn_11 : decode c_Mo_turn 11 = .ok (.if_icmp .ge 46, 3) := by decide +kernel
theorem d_Mo_turn_14 : decode c_Mo_turn 14 = .ok (.lload_n 1, 1) := by decide +kernel
theorem d_Mo_turn_15 : decode c_Mo_turn 15 = .ok (.aload_n 0, 1) := by decide +kernel
theorem d_Mo_turn_16 : decode c_Mo_turn 16 = .ok (.getfield 7, 3) := by decide +kernel
theorem d_Mo_turn_19 : decode c_Mo_turn 19 = .ok (.iconst 0, 1) := by decide +kernel
theorem d_Mo_turn_20 : decode c_Mo_turn 20 = .ok (.laload, 1) := by decide +kernel
theorem d_Mo_turn_21 : decode c_Mo_turn 21 = .ok (.iload_n 3, 1) := by decide +kernel
theorem d_Mo_turn_22 : decode c_Mo_turn 22 = .ok (.invokestatic 75, 3) := by decide +kernel
theorem d_Mo_turn_25 : decode c_Mo_turn 25 = .ok (.ifCond .eq 23, 3) := by decide +kernel
theorem d_Mo_turn_28 : decode c_Mo_turn 28 = .ok (.lconst 1, 1) := by decide +kernel
theorem d_Mo_turn_29 : decode c_Mo_turn 29 = .ok (.bipush 8, 2) := by decide +kernel
theorem d_Mo_turn_31 : decode c_Mo_turn 31 = .ok (.iload_n 3, 1) := by decide +kernel
theorem d_Mo_turn_32 : decode c_Mo_turn 32 = .ok (.bipush 8, 2) := by decide +kernel
theorem d_Mo_turn_34 : decode c_Mo_turn 34 = .ok (.irem, 1) := by decide +kernel
theorem d_Mo_turn_35 : decode c_Mo_turn 35 = .ok (.imul, 1) := by decide +kernel
theorem d_Mo_turn_36 : decode c_Mo_turn 36 = .ok (.bipush 7, 2) := by decide +kernel
theorem d_Mo_turn_38 : decode c_Mo_turn 38 = .ok (.iadd, 1) := by decide +kernel
theorem d_Mo_turn_39 : decode c_Mo_turn 39 = .ok (.iload_n 3, 1) := by decide +kernel
theorem d_Mo_turn_40 : decode c_Mo_turn 40 = .ok (.bipush 8, 2) := by decide +kernel
theorem d_Mo_turn_42 : decode c_Mo_turn 42 = .ok (.idiv, 1) := by decide +kernel
theorem d_Mo_turn_43 : decode c_Mo_turn 43 = .ok (.isub, 1) := by decide +kernel
theorem d_Mo_turn_44 : decode c_Mo_turn 44 = .ok (.lshl, 1) := by decide +kernel
theorem d_Mo_turn_45 : decode c_Mo_turn 45 = .ok (.goto 4, 3) := by decide +kernel
theorem d_Mo_turn_48 : decode c_Mo_turn 48 = .ok (.lconst 0, 1) := by decide +kernel
theorem d_Mo_turn_49 : decode c_Mo_turn 49 = .ok (.lor, 1) := by decide +kernel
theorem d_Mo_turn_50 : decode c_Mo_turn 50 = .ok (.lstore_n 1, 1) := by decide +kernel
theorem d_Mo_turn_51 : decode c_Mo_turn 51 = .ok (.iinc 3 1, 3) := by decide +kernel
theorem d_Mo_turn_54 : decode c_Mo_turn 54 = .ok (.goto (-46), 3) := by decide +kernel
theorem d_Mo_turn_57 : decode c_Mo_turn 57 = .ok (.aload_n 0, 1) := by decide +kernel
theorem d_Mo_turn_58 : decode c_Mo_turn 58 = .ok (.getfield 7, 3) := by decide +kernel
theorem d_Mo_turn_61 : decode c_Mo_turn 61 = .ok (.iconst 0, 1) := by decide +kernel
theorem d_Mo_turn_62 : decode c_Mo_turn 62 = .ok (.lload_n 1, 1) := by decide +kernel
theorem d_Mo_turn_63 : decode c_Mo_turn 63 = .ok (.lastore, 1) := by decide +kernel
theorem d_Mo_turn_64 : decode c_Mo_turn 64 = .ok (.aload_n 0, 1) := by decide +kernel
theorem d_Mo_turn_65 : decode c_Mo_turn 65 = .ok (.invokevirtual 170, 3) := by decide +kernel
theorem d_Mo_turn_68 : decode c_Mo_turn 68 = .ok (.ireturn, 1) := by decide +kernel
theorem d_Mo_mirror_0 : decode c_Mo_mirror 0 = .ok (.aload_n 0, 1) := by decide +kernel
theorem d_Mo_mirror_1 : decode c_Mo_mirror 1 = .ok (.invokevirtual 163, 3) := by decide +kernel
theorem d_Mo_mirror_4 : decode c_Mo_mirror 4 = .ok (.lconst 0, 1) := by decide +kernel
theorem d_Mo_mirror_5 : decode c_Mo_mirror 5 = .ok (.lstore_n 1, 1) := by decide +kernel
theorem d_Mo_mirror_6 : decode c_Mo_mirror 6 = .ok (.iconst 0, 1) := by decide +kernel
theorem d_Mo_mirror_7 : decode c_Mo_mirror 7 = .ok (.istore_n 3, 1) := by decide +kernel
theorem d_Mo_mirror_8 : decode c_Mo_mirror 8 = .ok (.iload_n 3, 1) := by decide +kernel
theorem d_Mo_mirror_9 : decode c_Mo_mirror 9 = .ok (.bipush 64, 2) := by decide +kernel
theorem d_Mo_mirror_11 : decode c_Mo_mirror 11 = .ok (.if_icmp .ge 46, 3) := by decide +kernel
theorem d_Mo_mirror_14 : decode c_Mo_mirror 14 = .ok (.lload_n 1, 1) := by decide +kernel
theorem d_Mo_mirror_15 : decode c_Mo_mirror 15 = .ok (.aload_n 0, 1) := by decide +kernel
theorem d_Mo_mirror_16 : decode c_Mo_mirror 16 = .ok (.getfield 7, 3) := by decide +kernel
theorem d_Mo_mirror_19 : decode c_Mo_mirror 19 = .ok (.iconst 0, 1) := by decide +kernel
theorem d_Mo_mirror_20 : decode c_Mo_mirror 20 = .ok (.laload, 1) := by decide +kernel
theorem d_Mo_mirror_21 : decode c_Mo_mirror 21 = .ok (.iload_n 3, 1) := by decide +kernel
theorem d_Mo_mirror_22 : decode c_Mo_mirror 22 = .ok (.invokestatic 75, 3) := by decide +kernel
theorem d_Mo_mirror_25 : decode c_Mo_mirror 25 = .ok (.ifCond .eq 23, 3) := by decide +kernel
theorem d_Mo_mirror_28 : decode c_Mo_mirror 28 = .ok (.lconst 1, 1) := by decide +kernel
theorem d_Mo_mirror_29 : decode c_Mo_mirror 29 = .ok (.iload_n 3, 1) := by decide +kernel
theorem d_Mo_mirror_30 : decode c_Mo_mirror 30 = .ok (.bipush 8, 2) := by decide +kernel
theorem d_Mo_mirror_32 : decode c_Mo_mirror 32 = .ok (.idiv, 1) := by decide +kernel
theorem d_Mo_mirror_33 : decode c_Mo_mirror 33 = .ok (.bipush 8, 2) := by decide +kernel
theorem d_Mo_mirror_35 : decode c_Mo_mirror 35 = .ok (.imul, 1) := by decide +kernel
theorem d_Mo_mirror_36 : decode c_Mo_mirror 36 = .ok (.bipush 7, 2) := by decide +kernel
theorem d_Mo_mirror_38 : decode c_Mo_mirror 38 = .ok (.iadd, 1) := by decide +kernel
theorem d_Mo_mirror_39 : decode c_Mo_mirror 39 = .ok (.iload_n 3, 1) := by decide +kernel
theorem d_Mo_mirror_40 : decode c_Mo_mirror 40 = .ok (.bipush 8, 2) := by decide +kernel
theorem d_Mo_mirror_42 : decode c_Mo_mirror 42 = .ok (.irem, 1) := by decide +kernel
theorem d_Mo_mirror_43 : decode c_Mo_mirror 43 = .ok (.isub, 1) := by decide +kernel
theorem d_Mo_mirror_44 : decode c_Mo_mirror 44 = .ok (.lshl, 1) := by decide +kernel
theorem d_Mo_mirror_45 : decode c_Mo_mirror 45 = .ok (.goto 4, 3) := by decide +kernel
theorem d_Mo_mirror_48 : decode c_Mo_mirror 48 = .ok (.lconst 0, 1) := by decide +kernel
theorem d_Mo_mirror_49 : decode c_Mo_mirror 49 = .ok (.lor, 1) := by decide +kernel
theorem d_Mo_mirror_50 : decode c_Mo_mirror 50 = .ok (.lstore_n 1, 1) := by decide +kernel
theorem d_Mo_mirror_51 : decode c_Mo_mirror 51 = .ok (.iinc 3 1, 3) := by decide +kernel
theorem d_Mo_mirror_54 : decode c_Mo_mirror 54 = .ok (.goto (-46), 3) := by decide +kernel
theorem d_Mo_mirror_57 : decode c_Mo_mirror 57 = .ok (.aload_n 0, 1) := by decide +kernel
theorem d_Mo_mirror_58 : decode c_Mo_mirror 58 = .ok (.getfield 7, 3) := by decide +kernel
theorem d_Mo_mirror_61 : decode c_Mo_mirror 61 = .ok (.iconst 0, 1) := by decide +kernel
theorem d_Mo_mirror_62 : decode c_Mo_mirror 62 = .ok (.lload_n 1, 1) := by decide +kernel
theorem d_Mo_mirror_63 : decode c_Mo_mirror 63 = .ok (.lastore, 1) := by decide +kernel
theorem d_Mo_mirror_64 : decode c_Mo_mirror 64 = .ok (.aload_n 0, 1) := by decide +kernel
theorem d_Mo_mirror_65 : decode c_Mo_mirror 65 = .ok (.invokevirtual 170, 3) := by decide +kernel
theorem d_Mo_mirror_68 : decode c_Mo_mirror 68 = .ok (.ireturn, 1) := by decide +kernel
theorem d_Mo_hold_0 : decode c_Mo_hold 0 = .ok (.aload_n 0, 1) := by decide +kernel
theorem d_Mo_hold_1 : decode c_Mo_hold 1 = .ok (.iload_n 1, 1) := by decide +kernel
theorem d_Mo_hold_2 : decode c_Mo_hold 2 = .ok (.invokevirtual 114, 3) := by decide +kernel
theorem d_Mo_hold_5 : decode c_Mo_hold 5 = .ok (.ifCond .ne 6, 3) := by decide +kernel
theorem d_Mo_hold_8 : decode c_Mo_hold 8 = .ok (.ldc 145, 2) := by decide +kernel
theorem d_Mo_hold_10 : decode c_Mo_hold 10 = .ok (.ireturn, 1) := by decide +kernel
theorem d_Mo_hold_11 : decode c_Mo_hold 11 = .ok (.aload_n 0, 1) := by decide +kernel
theorem d_Mo_hold_12 : decode c_Mo_hold 12 = .ok (.iload_n 1, 1) := by decide +kernel
theorem d_Mo_hold_13 : decode c_Mo_hold 13 = .ok (.invokevirtual 82, 3) := by decide +kernel
theorem d_Mo_hold_16 : decode c_Mo_hold 16 = .ok (.istore_n 2, 1) := by decide +kernel
theorem d_Mo_hold_17 : decode c_Mo_hold 17 = .ok (.aload_n 0, 1) := by decide +kernel
theorem d_Mo_hold_18 : decode c_Mo_hold 18 = .ok (.invokevirtual 163, 3) := by decide +kernel
theorem d_Mo_hold_21 : decode c_Mo_hold 21 = .ok (.aload_n 0, 1) := by decide +kernel
theorem d_Mo_hold_22 : decode c_Mo_hold 22 = .ok (.getfield 7, 3) := by decide +kernel
theorem d_Mo_hold_25 : decode c_Mo_hold 25 = .ok (.iconst 0, 1) := by decide +kernel
theorem d_Mo_hold_26 : decode c_Mo_hold 26 = .ok (.aload_n 0, 1) := by decide +kernel
theorem d_Mo_hold_27 : decode c_Mo_hold 27 = .ok (.iload_n 1, 1) := by decide +kernel
theorem d_Mo_hold_28 : decode c_Mo_hold 28 = .ok (.invokevirtual 67, 3) := by decide +kernel
theorem d_Mo_hold_31 : decode c_Mo_hold 31 = .ok (.lastore, 1) := by decide +kernel
theorem d_Mo_hold_32 : decode c_Mo_hold 32 = .ok (.iload_n 2, 1) := by decide +kernel
theorem d_Mo_hold_33 : decode c_Mo_hold 33 = .ok (.ireturn, 1) := by decide +kernel
theorem d_Mo_add_0 : decode c_Mo_add 0 = .ok (.aload_n 0, 1) := by decide +kernel
theorem d_Mo_add_1 : decode c_Mo_add 1 = .ok (.getfield 7, 3) := by decide +kernel
theorem d_Mo_add_4 : decode c_Mo_add 4 = .ok (.iconst 3, 1) := by decide +kernel
theorem d_Mo_add_5 : decode c_Mo_add 5 = .ok (.aload_n 0, 1) := by decide +kernel
theorem d_Mo_add_6 : decode c_Mo_add 6 = .ok (.invokevirtual 59, 3) := by decide +kernel
theorem d_Mo_add_9 : decode c_Mo_add 9 = .ok (.iadd, 1) := by decide +kernel
theorem d_Mo_add_10 : decode c_Mo_add 10 = .ok (.aload_n 0, 1) := by decide +kernel
theorem d_Mo_add_11 : decode c_Mo_add 11 = .ok (.getfield 7, 3) := by decide +kernel
theorem d_Mo_add_14 : decode c_Mo_add 14 = .ok (.iconst 0, 1) := by decide +kernel
theorem d_Mo_add_15 : decode c_Mo_add 15 = .ok (.laload, 1) := by decide +kernel
theorem d_Mo_add_16 : decode c_Mo_add 16 = .ok (.lastore, 1) := by decide +kernel
theorem d_Mo_add_17 : decode c_Mo_add 17 = .ok (.aload_n 0, 1) := by decide +kernel
theorem d_Mo_add_18 : decode c_Mo_add 18 = .ok (.getfield 13, 3) := by decide +kernel
theorem d_Mo_add_21 : decode c_Mo_add 21 = .ok (.aload_n 0, 1) := by decide +kernel
theorem d_Mo_add_22 : decode c_Mo_add 22 = .ok (.invokevirtual 59, 3) := by decide +kernel
theorem d_Mo_add_25 : decode c_Mo_add 25 = .ok (.iload_n 1, 1) := by decide +kernel
theorem d_Mo_add_26 : decode c_Mo_add 26 = .ok (.iastore, 1) := by decide +kernel
theorem d_Mo_add_27 : decode c_Mo_add 27 = .ok (.aload_n 0, 1) := by decide +kernel
theorem d_Mo_add_28 : decode c_Mo_add 28 = .ok (.getfield 7, 3) := by decide +kernel
theorem d_Mo_add_31 : decode c_Mo_add 31 = .ok (.iconst 2, 1) := by decide +kernel
theorem d_Mo_add_32 : decode c_Mo_add 32 = .ok (.dup2, 1) := by decide +kernel
theorem d_Mo_add_33 : decode c_Mo_add 33 = .ok (.laload, 1) := by decide +kernel
theorem d_Mo_add_34 : decode c_Mo_add 34 = .ok (.lconst 1, 1) := by decide +kernel
theorem d_Mo_add_35 : decode c_Mo_add 35 = .ok (.ladd, 1) := by decide +kernel
theorem d_Mo_add_36 : decode c_Mo_add 36 = .ok (.lastore, 1) := by decide +kernel
theorem d_Mo_add_37 : decode c_Mo_add 37 = .ok (.return_, 1) := by decide +kernel
theorem d_Mo_put_0 : decode c_Mo_put 0 = .ok (.iload_n 1, 1) := by decide +kernel
theorem d_Mo_put_1 : decode c_Mo_put 1 = .ok (.i2l, 1) := by decide +kernel
theorem d_Mo_put_2 : decode c_Mo_put 2 = .ok (.lconst 0, 1) := by decide +kernel
theorem d_Mo_put_3 : decode c_Mo_put 3 = .ok (.ldc2_w 173, 3) := by decide +kernel
theorem d_Mo_put_6 : decode c_Mo_put 6 = .ok (.invokestatic 63, 3) := by decide +kernel
theorem d_Mo_put_9 : decode c_Mo_put 9 = .ok (.ifCond .ne 6, 3) := by decide +kernel
theorem d_Mo_put_12 : decode c_Mo_put 12 = .ok (.ldc 144, 2) := by decide +kernel
theorem d_Mo_put_14 : decode c_Mo_put 14 = .ok (.ireturn, 1) := by decide +kernel
theorem d_Mo_put_15 : decode c_Mo_put 15 = .ok (.aload_n 0, 1) := by decide +kernel
theorem d_Mo_put_16 : decode c_Mo_put 16 = .ok (.aload_n 0, 1) := by decide +kernel
theorem d_Mo_put_17 : decode c_Mo_put 17 = .ok (.getfield 7, 3) := by decide +kernel
theorem d_Mo_put_20 : decode c_Mo_put 20 = .ok (.iconst 0, 1) := by decide +kernel
theorem d_Mo_put_21 : decode c_Mo_put 21 = .ok (.laload, 1) := by decide +kernel
theorem d_Mo_put_22 : decode c_Mo_put 22 = .ok (.invokevirtual 120, 3) := by decide +kernel
theorem d_Mo_put_25 : decode c_Mo_put 25 = .ok (.iconst (-1), 1) := by decide +kernel
theorem d_Mo_put_26 : decode c_Mo_put 26 = .ok (.if_icmp .eq 6, 3) := by decide +kernel
theorem d_Mo_put_29 : decode c_Mo_put 29 = .ok (.ldc 175, 2) := by decide +kernel
theorem d_Mo_put_31 : decode c_Mo_put 31 = .ok (.ireturn, 1) := by decide +kernel
theorem d_Mo_put_32 : decode c_Mo_put 32 = .ok (.aload_n 0, 1) := by decide +kernel
theorem d_Mo_put_33 : decode c_Mo_put 33 = .ok (.invokevirtual 59, 3) := by decide +kernel
theorem d_Mo_put_36 : decode c_Mo_put 36 = .ok (.bipush 40, 2) := by decide +kernel
theorem d_Mo_put_38 : decode c_Mo_put 38 = .ok (.if_icmp .ne 6, 3) := by decide +kernel
theorem d_Mo_put_41 : decode c_Mo_put 41 = .ok (.ldc 176, 2) := by decide +kernel
theorem d_Mo_put_43 : decode c_Mo_put 43 = .ok (.ireturn, 1) := by decide +kernel
theorem d_Mo_put_44 : decode c_Mo_put 44 = .ok (.aload_n 0, 1) := by decide +kernel
theorem d_Mo_put_45 : decode c_Mo_put 45 = .ok (.invokevirtual 163, 3) := by decide +kernel
theorem d_Mo_put_48 : decode c_Mo_put 48 = .ok (.aload_n 0, 1) := by decide +kernel
theorem d_Mo_put_49 : decode c_Mo_put 49 = .ok (.iload_n 1, 1) := by decide +kernel
theorem d_Mo_put_50 : decode c_Mo_put 50 = .ok (.invokevirtual 177, 3) := by decide +kernel
theorem d_Mo_put_53 : decode c_Mo_put 53 = .ok (.aload_n 0, 1) := by decide +kernel
theorem d_Mo_put_54 : decode c_Mo_put 54 = .ok (.invokevirtual 59, 3) := by decide +kernel
theorem d_Mo_put_57 : decode c_Mo_put 57 = .ok (.iconst 1, 1) := by decide +kernel
theorem d_Mo_put_58 : decode c_Mo_put 58 = .ok (.isub, 1) := by decide +kernel
theorem d_Mo_put_59 : decode c_Mo_put 59 = .ok (.ireturn, 1) := by decide +kernel
theorem d_Mo_cut_0 : decode c_Mo_cut 0 = .ok (.lload_n 1, 1) := by decide +kernel
theorem d_Mo_cut_1 : decode c_Mo_cut 1 = .ok (.iconst 0, 1) := by decide +kernel
theorem d_Mo_cut_2 : decode c_Mo_cut 2 = .ok (.invokestatic 75, 3) := by decide +kernel
theorem d_Mo_cut_5 : decode c_Mo_cut 5 = .ok (.ifCond .eq 12, 3) := by decide +kernel
theorem d_Mo_cut_8 : decode c_Mo_cut 8 = .ok (.lload_n 1, 1) := by decide +kernel
theorem d_Mo_cut_9 : decode c_Mo_cut 9 = .ok (.invokestatic 71, 3) := by decide +kernel
theorem d_Mo_cut_12 : decode c_Mo_cut 12 = .ok (.bipush 8, 2) := by decide +kernel
theorem d_Mo_cut_14 : decode c_Mo_cut 14 = .ok (.if_icmp .le 6, 3) := by decide +kernel
theorem d_Mo_cut_17 : decode c_Mo_cut 17 = .ok (.ldc 144, 2) := by decide +kernel
theorem d_Mo_cut_19 : decode c_Mo_cut 19 = .ok (.ireturn, 1) := by decide +kernel
theorem d_Mo_cut_20 : decode c_Mo_cut 20 = .ok (.aload_n 0, 1) := by decide +kernel
theorem d_Mo_cut_21 : decode c_Mo_cut 21 = .ok (.invokevirtual 163, 3) := by decide +kernel
theorem d_Mo_cut_24 : decode c_Mo_cut 24 = .ok (.aload_n 0, 1) := by decide +kernel
theorem d_Mo_cut_25 : decode c_Mo_cut 25 = .ok (.getfield 7, 3) := by decide +kernel
theorem d_Mo_cut_28 : decode c_Mo_cut 28 = .ok (.iconst 1, 1) := by decide +kernel
theorem d_Mo_cut_29 : decode c_Mo_cut 29 = .ok (.lload_n 1, 1) := by decide +kernel
theorem d_Mo_cut_30 : decode c_Mo_cut 30 = .ok (.lastore, 1) := by decide +kernel
theorem d_Mo_cut_31 : decode c_Mo_cut 31 = .ok (.aload_n 0, 1) := by decide +kernel
theorem d_Mo_cut_32 : decode c_Mo_cut 32 = .ok (.invokevirtual 86, 3) := by decide +kernel
theorem d_Mo_cut_35 : decode c_Mo_cut 35 = .ok (.iconst 1, 1) := by decide +kernel
theorem d_Mo_cut_36 : decode c_Mo_cut 36 = .ok (.isub, 1) := by decide +kernel
theorem d_Mo_cut_37 : decode c_Mo_cut 37 = .ok (.ireturn, 1) := by decide +kernel
theorem d_Mo_take_0 : decode c_Mo_take 0 = .ok (.aload_n 0, 1) := by decide +kernel
theorem d_Mo_take_1 : decode c_Mo_take 1 = .ok (.iload_n 1, 1) := by decide +kernel
theorem d_Mo_take_2 : decode c_Mo_take 2 = .ok (.invokevirtual 114, 3) := by decide +kernel
theorem d_Mo_take_5 : decode c_Mo_take 5 = .ok (.ifCond .ne 6, 3) := by decide +kernel
theorem d_Mo_take_8 : decode c_Mo_take 8 = .ok (.ldc 145, 2) := by decide +kernel
theorem d_Mo_take_10 : decode c_Mo_take 10 = .ok (.ireturn, 1) := by decide +kernel
theorem d_Mo_take_11 : decode c_Mo_take 11 = .ok (.aload_n 0, 1) := by decide +kernel
theorem d_Mo_take_12 : decode c_Mo_take 12 = .ok (.invokevirtual 163, 3) := by decide +kernel
theorem d_Mo_take_15 : decode c_Mo_take 15 = .ok (.aload_n 0, 1) := by decide +kernel
theorem d_Mo_take_16 : decode c_Mo_take 16 = .ok (.invokevirtual 59, 3) := by decide +kernel
theorem d_Mo_take_19 : decode c_Mo_take 19 = .ok (.iconst 1, 1) := by decide +kernel
theorem d_Mo_take_20 : decode c_Mo_take 20 = .ok (.isub, 1) := by decide +kernel
theorem d_Mo_take_21 : decode c_Mo_take 21 = .ok (.istore_n 2, 1) := by decide +kernel
theorem d_Mo_take_22 : decode c_Mo_take 22 = .ok (.iload_n 1, 1) := by decide +kernel
theorem d_Mo_take_23 : decode c_Mo_take 23 = .ok (.istore_n 3, 1) := by decide +kernel
theorem d_Mo_take_24 : decode c_Mo_take 24 = .ok (.iload_n 3, 1) := by decide +kernel
theorem d_Mo_take_25 : decode c_Mo_take 25 = .ok (.iload_n 2, 1) := by decide +kernel
theorem d_Mo_take_26 : decode c_Mo_take 26 = .ok (.if_icmp .ge 39, 3) := by decide +kernel
theorem d_Mo_take_29 : decode c_Mo_take 29 = .ok (.aload_n 0, 1) := by decide +kernel
theorem d_Mo_take_30 : decode c_Mo_take 30 = .ok (.getfield 7, 3) := by decide +kernel
theorem d_Mo_take_33 : decode c_Mo_take 33 = .ok (.iconst 3, 1) := by decide +kernel
theorem d_Mo_take_34 : decode c_Mo_take 34 = .ok (.iload_n 3, 1) := by decide +kernel
theorem d_Mo_take_35 : decode c_Mo_take 35 = .ok (.iadd, 1) := by decide +kernel
theorem d_Mo_take_36 : decode c_Mo_take 36 = .ok (.aload_n 0, 1) := by decide +kernel
theorem d_Mo_take_37 : decode c_Mo_take 37 = .ok (.getfield 7, 3) := by decide +kernel
theorem d_Mo_take_40 : decode c_Mo_take 40 = .ok (.iconst 4, 1) := by decide +kernel
theorem d_Mo_take_41 : decode c_Mo_take 41 = .ok (.iload_n 3, 1) := by decide +kernel
theorem d_Mo_take_42 : decode c_Mo_take 42 = .ok (.iadd, 1) := by decide +kernel
theorem d_Mo_take_43 : decode c_Mo_take 43 = .ok (.laload, 1) := by decide +kernel
theorem d_Mo_take_44 : decode c_Mo_take 44 = .ok (.lastore, 1) := by decide +kernel
theorem d_Mo_take_45 : decode c_Mo_take 45 = .ok (.aload_n 0, 1) := by decide +kernel
theorem d_Mo_take_46 : decode c_Mo_take 46 = .ok (.getfield 13, 3) := by decide +kernel
theorem d_Mo_take_49 : decode c_Mo_take 49 = .ok (.iload_n 3, 1) := by decide +kernel
theorem d_Mo_take_50 : decode c_Mo_take 50 = .ok (.aload_n 0, 1) := by decide +kernel
theorem d_Mo_take_51 : decode c_Mo_take 51 = .ok (.getfield 13, 3) := by decide +kernel
theorem d_Mo_take_54 : decode c_Mo_take 54 = .ok (.iload_n 3, 1) := by decide +kernel
theorem d_Mo_take_55 : decode c_Mo_take 55 = .ok (.iconst 1, 1) := by decide +kernel
theorem d_Mo_take_56 : decode c_Mo_take 56 = .ok (.iadd, 1) := by decide +kernel
theorem d_Mo_take_57 : decode c_Mo_take 57 = .ok (.iaload, 1) := by decide +kernel
theorem d_Mo_take_58 : decode c_Mo_take 58 = .ok (.iastore, 1) := by decide +kernel
theorem d_Mo_take_59 : decode c_Mo_take 59 = .ok (.iinc 3 1, 3) := by decide +kernel
theorem d_Mo_take_62 : decode c_Mo_take 62 = .ok (.goto (-38), 3) := by decide +kernel
theorem d_Mo_take_65 : decode c_Mo_take 65 = .ok (.aload_n 0, 1) := by decide +kernel
theorem d_Mo_take_66 : decode c_Mo_take 66 = .ok (.getfield 7, 3) := by decide +kernel
theorem d_Mo_take_69 : decode c_Mo_take 69 = .ok (.iconst 3, 1) := by decide +kernel
theorem d_Mo_take_70 : decode c_Mo_take 70 = .ok (.iload_n 2, 1) := by decide +kernel
theorem d_Mo_take_71 : decode c_Mo_take 71 = .ok (.iadd, 1) := by decide +kernel
theorem d_Mo_take_72 : decode c_Mo_take 72 = .ok (.lconst 0, 1) := by decide +kernel
theorem d_Mo_take_73 : decode c_Mo_take 73 = .ok (.lastore, 1) := by decide +kernel
theorem d_Mo_take_74 : decode c_Mo_take 74 = .ok (.aload_n 0, 1) := by decide +kernel
theorem d_Mo_take_75 : decode c_Mo_take 75 = .ok (.getfield 13, 3) := by decide +kernel
theorem d_Mo_take_78 : decode c_Mo_take 78 = .ok (.iload_n 2, 1) := by decide +kernel
theorem d_Mo_take_79 : decode c_Mo_take 79 = .ok (.iconst 0, 1) := by decide +kernel
theorem d_Mo_take_80 : decode c_Mo_take 80 = .ok (.iastore, 1) := by decide +kernel
theorem d_Mo_take_81 : decode c_Mo_take 81 = .ok (.aload_n 0, 1) := by decide +kernel
theorem d_Mo_take_82 : decode c_Mo_take 82 = .ok (.getfield 7, 3) := by decide +kernel
theorem d_Mo_take_85 : decode c_Mo_take 85 = .ok (.iconst 2, 1) := by decide +kernel
theorem d_Mo_take_86 : decode c_Mo_take 86 = .ok (.dup2, 1) := by decide +kernel
theorem d_Mo_take_87 : decode c_Mo_take 87 = .ok (.laload, 1) := by decide +kernel
theorem d_Mo_take_88 : decode c_Mo_take 88 = .ok (.lconst 1, 1) := by decide +kernel
theorem d_Mo_take_89 : decode c_Mo_take 89 = .ok (.lsub, 1) := by decide +kernel
theorem d_Mo_take_90 : decode c_Mo_take 90 = .ok (.lastore, 1) := by decide +kernel
theorem d_Mo_take_91 : decode c_Mo_take 91 = .ok (.iload_n 2, 1) := by decide +kernel
theorem d_Mo_take_92 : decode c_Mo_take 92 = .ok (.ireturn, 1) := by decide +kernel
theorem d_Mo_kind_0 : decode c_Mo_kind 0 = .ok (.aload_n 0, 1) := by decide +kernel
theorem d_Mo_kind_1 : decode c_Mo_kind 1 = .ok (.iload_n 1, 1) := by decide +kernel
theorem d_Mo_kind_2 : decode c_Mo_kind 2 = .ok (.invokevirtual 114, 3) := by decide +kernel
theorem d_Mo_kind_5 : decode c_Mo_kind 5 = .ok (.ifCond .ne 6, 3) := by decide +kernel
theorem d_Mo_kind_8 : decode c_Mo_kind 8 = .ok (.ldc 145, 2) := by decide +kernel
theorem d_Mo_kind_10 : decode c_Mo_kind 10 = .ok (.ireturn, 1) := by decide +kernel
theorem d_Mo_kind_11 : decode c_Mo_kind 11 = .ok (.iload_n 2, 1) := by decide +kernel
theorem d_Mo_kind_12 : decode c_Mo_kind 12 = .ok (.i2l, 1) := by decide +kernel
theorem d_Mo_kind_13 : decode c_Mo_kind 13 = .ok (.lconst 0, 1) := by decide +kernel
theorem d_Mo_kind_14 : decode c_Mo_kind 14 = .ok (.ldc2_w 173, 3) := by decide +kernel
theorem d_Mo_kind_17 : decode c_Mo_kind 17 = .ok (.invokestatic 63, 3) := by decide +kernel
theorem d_Mo_kind_20 : decode c_Mo_kind 20 = .ok (.ifCond .ne 6, 3) := by decide +kernel
theorem d_Mo_kind_23 : decode c_Mo_kind 23 = .ok (.ldc 144, 2) := by decide +kernel
theorem d_Mo_kind_25 : decode c_Mo_kind 25 = .ok (.ireturn, 1) := by decide +kernel
theorem d_Mo_kind_26 : decode c_Mo_kind 26 = .ok (.aload_n 0, 1) := by decide +kernel
theorem d_Mo_kind_27 : decode c_Mo_kind 27 = .ok (.invokevirtual 163, 3) := by decide +kernel
theorem d_Mo_kind_30 : decode c_Mo_kind 30 = .ok (.aload_n 0, 1) := by decide +kernel
theorem d_Mo_kind_31 : decode c_Mo_kind 31 = .ok (.getfield 13, 3) := by decide +kernel
theorem d_Mo_kind_34 : decode c_Mo_kind 34 = .ok (.iload_n 1, 1) := by decide +kernel
theorem d_Mo_kind_35 : decode c_Mo_kind 35 = .ok (.iaload, 1) := by decide +kernel
theorem d_Mo_kind_36 : decode c_Mo_kind 36 = .ok (.istore_n 3, 1) := by decide +kernel
theorem d_Mo_kind_37 : decode c_Mo_kind 37 = .ok (.aload_n 0, 1) := by decide +kernel
theorem d_Mo_kind_38 : decode c_Mo_kind 38 = .ok (.getfield 13, 3) := by decide +kernel
theorem d_Mo_kind_41 : decode c_Mo_kind 41 = .ok (.iload_n 1, 1) := by decide +kernel
theorem d_Mo_kind_42 : decode c_Mo_kind 42 = .ok (.iload_n 2, 1) := by decide +kernel
theorem d_Mo_kind_43 : decode c_Mo_kind 43 = .ok (.iastore, 1) := by decide +kernel
theorem d_Mo_kind_44 : decode c_Mo_kind 44 = .ok (.iload_n 3, 1) := by decide +kernel
theorem d_Mo_kind_45 : decode c_Mo_kind 45 = .ok (.ireturn, 1) := by decide +kernel
theorem d_Mo_draw_0 : decode c_Mo_draw 0 = .ok (.aload_n 0, 1) := by decide +kernel
theorem d_Mo_draw_1 : decode c_Mo_draw 1 = .ok (.aload_n 0, 1) := by decide +kernel
theorem d_Mo_draw_2 : decode c_Mo_draw 2 = .ok (.getfield 181, 3) := by decide +kernel
theorem d_Mo_draw_5 : decode c_Mo_draw 5 = .ok (.i2l, 1) := by decide +kernel
theorem d_Mo_draw_6 : decode c_Mo_draw 6 = .ok (.ldc2_w 184, 3) := by decide +kernel
theorem d_Mo_draw_9 : decode c_Mo_draw 9 = .ok (.lmul, 1) := by decide +kernel
theorem d_Mo_draw_10 : decode c_Mo_draw 10 = .ok (.ldc2_w 186, 3) := by decide +kernel
theorem d_Mo_draw_13 : decode c_Mo_draw 13 = .ok (.ladd, 1) := by decide +kernel
theorem d_Mo_draw_14 : decode c_Mo_draw 14 = .ok (.ldc2_w 188, 3) := by decide +kernel
theorem d_Mo_draw_17 : decode c_Mo_draw 17 = .ok (.lrem, 1) := by decide +kernel
theorem d_Mo_draw_18 : decode c_Mo_draw 18 = .ok (.l2i, 1) := by decide +kernel
theorem d_Mo_draw_19 : decode c_Mo_draw 19 = .ok (.putfield 181, 3) := by decide +kernel
theorem d_Mo_draw_22 : decode c_Mo_draw 22 = .ok (.aload_n 0, 1) := by decide +kernel
theorem d_Mo_draw_23 : decode c_Mo_draw 23 = .ok (.getfield 181, 3) := by decide +kernel
theorem d_Mo_draw_26 : decode c_Mo_draw 26 = .ok (.ldc 190, 2) := by decide +kernel
theorem d_Mo_draw_28 : decode c_Mo_draw 28 = .ok (.idiv, 1) := by decide +kernel
theorem d_Mo_draw_29 : decode c_Mo_draw 29 = .ok (.iload_n 1, 1) := by decide +kernel
theorem d_Mo_draw_30 : decode c_Mo_draw 30 = .ok (.irem, 1) := by decide +kernel
theorem d_Mo_draw_31 : decode c_Mo_draw 31 = .ok (.ireturn, 1) := by decide +kernel
theorem d_Mo_lot_0 : decode c_Mo_lot 0 = .ok (.aload_n 0, 1) := by decide +kernel
theorem d_Mo_lot_1 : decode c_Mo_lot 1 = .ok (.invokevirtual 163, 3) := by decide +kernel
theorem d_Mo_lot_4 : decode c_Mo_lot 4 = .ok (.aload_n 0, 1) := by decide +kernel
theorem d_Mo_lot_5 : decode c_Mo_lot 5 = .ok (.iconst 4, 1) := by decide +kernel
theorem d_Mo_lot_6 : decode c_Mo_lot 6 = .ok (.invokevirtual 191, 3) := by decide +kernel
theorem d_Mo_lot_9 : decode c_Mo_lot 9 = .ok (.istore_n 1, 1) := by decide +kernel
theorem d_Mo_lot_10 : decode c_Mo_lot 10 = .ok (.iload_n 1, 1) := by decide +kernel
theorem d_Mo_lot_11 : decode c_Mo_lot 11 = .ok (.ifCond .ne 68, 3) := by decide +kernel
theorem d_Mo_lot_14 : decode c_Mo_lot 14 = .ok (.aload_n 0, 1) := by decide +kernel
theorem d_Mo_lot_15 : decode c_Mo_lot 15 = .ok (.bipush 64, 2) := by decide +kernel
theorem d_Mo_lot_17 : decode c_Mo_lot 17 = .ok (.invokevirtual 191, 3) := by decide +kernel
theorem d_Mo_lot_20 : decode c_Mo_lot 20 = .ok (.istore_n 2, 1) := by decide +kernel
theorem d_Mo_lot_21 : decode c_Mo_lot 21 = .ok (.aload_n 0, 1) := by decide +kernel
theorem d_Mo_lot_22 : decode c_Mo_lot 22 = .ok (.sipush 256, 3) := by decide +kernel
theorem d_Mo_lot_25 : decode c_Mo_lot 25 = .ok (.invokevirtual 191, 3) := by decide +kernel
theorem d_Mo_lot_28 : decode c_Mo_lot 28 = .ok (.iload_n 2, 1) := by decide +kernel
theorem d_Mo_lot_29 : decode c_Mo_lot 29 = .ok (.ifCond .ge 7, 3) := by decide +kernel
theorem d_Mo_lot_32 : decode c_Mo_lot 32 = .ok (.iconst 1, 1) := by decide +kernel
theorem d_Mo_lot_33 : decode c_Mo_lot 33 = .ok (.goto 4, 3) := by decide +kernel
theorem d_Mo_lot_36 : decode c_Mo_lot 36 = .ok (.iconst 0, 1) := by decide +kernel
theorem d_Mo_lot_37 : decode c_Mo_lot 37 = .ok (.iadd, 1) := by decide +kernel
theorem d_Mo_lot_38 : decode c_Mo_lot 38 = .ok (.i2l, 1) := by decide +kernel
theorem d_Mo_lot_39 : decode c_Mo_lot 39 = .ok (.lstore_n 3, 1) := by decide +kernel
theorem d_Mo_lot_40 : decode c_Mo_lot 40 = .ok (.lconst 0, 1) := by decide +kernel
theorem d_Mo_lot_41 : decode c_Mo_lot 41 = .ok (.lstore 5, 2) := by decide +kernel
theorem d_Mo_lot_43 : decode c_Mo_lot 43 = .ok (.iconst 0, 1) := by decide +kernel
theorem d_Mo_lot_44 : decode c_Mo_lot 44 = .ok (.istore 7, 2) := by decide +kernel
theorem d_Mo_lot_46 : decode c_Mo_lot 46 = .ok (.iload 7, 2) := by decide +kernel
theorem d_Mo_lot_48 : decode c_Mo_lot 48 = .ok (.bipush 8, 2) := by decide +kernel
theorem d_Mo_lot_50 : decode c_Mo_lot 50 = .ok (.if_icmp .ge 21, 3) := by decide +kernel
theorem d_Mo_lot_53 : decode c_Mo_lot 53 = .ok (.lload 5, 2) := by decide +kernel
theorem d_Mo_lot_55 : decode c_Mo_lot 55 = .ok (.lload_n 3, 1) := by decide +kernel
theorem d_Mo_lot_56 : decode c_Mo_lot 56 = .ok (.bipush 8, 2) := by decide +kernel
theorem d_Mo_lot_58 : decode c_Mo_lot 58 = .ok (.iload 7, 2) := by decide +kernel
theorem d_Mo_lot_60 : decode c_Mo_lot 60 = .ok (.imul, 1) := by decide +kernel
theorem d_Mo_lot_61 : decode c_Mo_lot 61 = .ok (.lshl, 1) := by decide +kernel
theorem d_Mo_lot_62 : decode c_Mo_lot 62 = .ok (.lor, 1) := by decide +kernel
theorem d_Mo_lot_63 : decode c_Mo_lot 63 = .ok (.lstore 5, 2) := by decide +kernel
theorem d_Mo_lot_65 : decode c_Mo_lot 65 = .ok (.iinc 7 1, 3) := by decide +kernel
theorem d_Mo_lot_68 : decode c_Mo_lot 68 = .ok (.goto (-22), 3) := by decide +kernel
theorem d_Mo_lot_71 : decode c_Mo_lot 71 = .ok (.aload_n 0, 1) := by decide +kernel
theorem d_Mo_lot_72 : decode c_Mo_lot 72 = .ok (.getfield 7, 3) := by decide +kernel
theorem d_Mo_lot_75 : decode c_Mo_lot 75 = .ok (.iconst 0, 1) := by decide +kernel
theorem d_Mo_lot_76 : decode c_Mo_lot 76 = .ok (.lload 5, 2) := by decide +kernel
theorem d_Mo_lot_78 : decode c_Mo_lot 78 = .ok (.lastore, 1) := by decide +kernel
theorem d_Mo_lot_79 : decode c_Mo_lot 79 = .ok (.iload_n 1, 1) := by decide +kernel
theorem d_Mo_lot_80 : decode c_Mo_lot 80 = .ok (.iconst 1, 1) := by decide +kernel
theorem d_Mo_lot_81 : decode c_Mo_lot 81 = .ok (.if_icmp .eq 8, 3) := by decide +kernel
theorem d_Mo_lot_84 : decode c_Mo_lot 84 = .ok (.iload_n 1, 1) := by decide +kernel
theorem d_Mo_lot_85 : decode c_Mo_lot 85 = .ok (.iconst 2, 1) := by decide +kernel
theorem d_Mo_lot_86 : decode c_Mo_lot 86 = .ok (.if_icmp .ne 24, 3) := by decide +kernel
theorem d_Mo_lot_89 : decode c_Mo_lot 89 = .ok (.aload_n 0, 1) := by decide +kernel
theorem d_Mo_lot_90 : decode c_Mo_lot 90 = .ok (.getfield 7, 3) := by decide +kernel
theorem d_Mo_lot_93 : decode c_Mo_lot 93 = .ok (.iconst 0, 1) := by decide +kernel
theorem d_Mo_lot_94 : decode c_Mo_lot 94 = .ok (.aload_n 0, 1) := by decide +kernel
theorem d_Mo_lot_95 : decode c_Mo_lot 95 = .ok (.getfield 7, 3) := by decide +kernel
theorem d_Mo_lot_98 : decode c_Mo_lot 98 = .ok (.iconst 0, 1) := by decide +kernel
theorem d_Mo_lot_99 : decode c_Mo_lot 99 = .ok (.laload, 1) := by decide +kernel
theorem d_Mo_lot_100 : decode c_Mo_lot 100 = .ok (.lconst 1, 1) := by decide +kernel
theorem d_Mo_lot_101 : decode c_Mo_lot 101 = .ok (.aload_n 0, 1) := by decide +kernel
theorem d_Mo_lot_102 : decode c_Mo_lot 102 = .ok (.bipush 64, 2) := by decide +kernel
theorem d_Mo_lot_104 : decode c_Mo_lot 104 = .ok (.invokevirtual 191, 3) := by decide +kernel
theorem d_Mo_lot_107 : decode c_Mo_lot 107 = .ok (.lshl, 1) := by decide +kernel
theorem d_Mo_lot_108 : decode c_Mo_lot 108 = .ok (.lxor, 1) := by decide +kernel
theorem d_Mo_lot_109 : decode c_Mo_lot 109 = .ok (.lastore, 1) := by decide +kernel
theorem d_Mo_lot_110 : decode c_Mo_lot 110 = .ok (.aload_n 0, 1) := by decide +kernel
theorem d_Mo_lot_111 : decode c_Mo_lot 111 = .ok (.aload_n 0, 1) := by decide +kernel
theorem d_Mo_lot_112 : decode c_Mo_lot 112 = .ok (.getfield 7, 3) := by decide +kernel
theorem d_Mo_lot_115 : decode c_Mo_lot 115 = .ok (.iconst 0, 1) := by decide +kernel
theorem d_Mo_lot_116 : decode c_Mo_lot 116 = .ok (.laload, 1) := by decide +kernel
theorem d_Mo_lot_117 : decode c_Mo_lot 117 = .ok (.invokevirtual 120, 3) := by decide +kernel
theorem d_Mo_lot_120 : decode c_Mo_lot 120 = .ok (.iconst (-1), 1) := by decide +kernel
theorem d_Mo_lot_121 : decode c_Mo_lot 121 = .ok (.if_icmp .ne 17, 3) := by decide +kernel
theorem d_Mo_lot_124 : decode c_Mo_lot 124 = .ok (.aload_n 0, 1) := by decide +kernel
theorem d_Mo_lot_125 : decode c_Mo_lot 125 = .ok (.invokevirtual 59, 3) := by decide +kernel
theorem d_Mo_lot_128 : decode c_Mo_lot 128 = .ok (.bipush 40, 2) := by decide +kernel
theorem d_Mo_lot_130 : decode c_Mo_lot 130 = .ok (.if_icmp .ge 8, 3) := by decide +kernel
theorem d_Mo_lot_133 : decode c_Mo_lot 133 = .ok (.aload_n 0, 1) := by decide +kernel
theorem d_Mo_lot_134 : decode c_Mo_lot 134 = .ok (.iconst 0, 1) := by decide +kernel
theorem d_Mo_lot_135 : decode c_Mo_lot 135 = .ok (.invokevirtual 177, 3) := by decide +kernel
theorem d_Mo_lot_138 : decode c_Mo_lot 138 = .ok (.return_, 1) := by decide +kernel
theorem d_Mo_drift_0 : decode c_Mo_drift 0 = .ok (.iload_n 1, 1) := by decide +kernel
theorem d_Mo_drift_1 : decode c_Mo_drift 1 = .ok (.i2l, 1) := by decide +kernel
theorem d_Mo_drift_2 : decode c_Mo_drift 2 = .ok (.lconst 1, 1) := by decide +kernel
theorem d_Mo_drift_3 : decode c_Mo_drift 3 = .ok (.ldc2_w 194, 3) := by decide +kernel
theorem d_Mo_drift_6 : decode c_Mo_drift 6 = .ok (.invokestatic 63, 3) := by decide +kernel
theorem d_Mo_drift_9 : decode c_Mo_drift 9 = .ok (.ifCond .ne 6, 3) := by decide +kernel
theorem d_Mo_drift_12 : decode c_Mo_drift 12 = .ok (.ldc 144, 2) := by decide +kernel
theorem d_Mo_drift_14 : decode c_Mo_drift 14 = .ok (.ireturn, 1) := by decide +kernel
theorem d_Mo_drift_15 : decode c_Mo_drift 15 = .ok (.iconst 0, 1) := by decide +kernel
theorem d_Mo_drift_16 : decode c_Mo_drift 16 = .ok (.istore_n 2, 1) := by decide +kernel
theorem d_Mo_drift_17 : decode c_Mo_drift 17 = .ok (.iload_n 2, 1) := by decide +kernel
theorem d_Mo_drift_18 : decode c_Mo_drift 18 = .ok (.iload_n 1, 1) := by decide +kernel
theorem d_Mo_drift_19 : decode c_Mo_drift 19 = .ok (.if_icmp .ge 13, 3) := by decide +kernel
theorem d_Mo_drift_22 : decode c_Mo_drift 22 = .ok (.aload_n 0, 1) := by decide +kernel
theorem d_Mo_drift_23 : decode c_Mo_drift 23 = .ok (.invokevirtual 196, 3) := by decide +kernel
theorem d_Mo_drift_26 : decode c_Mo_drift 26 = .ok (.iinc 2 1, 3) := by decide +kernel
theorem d_Mo_drift_29 : decode c_Mo_drift 29 = .ok (.goto (-12), 3) := by decide +kernel
theorem d_Mo_drift_32 : decode c_Mo_drift 32 = .ok (.aload_n 0, 1) := by decide +kernel
theorem d_Mo_drift_33 : decode c_Mo_drift 33 = .ok (.invokevirtual 59, 3) := by decide +kernel
theorem d_Mo_drift_36 : decode c_Mo_drift 36 = .ok (.ireturn, 1) := by decide +kernel
theorem d_Mo_undo_0 : decode c_Mo_undo 0 = .ok (.iload_n 1, 1) := by decide +kernel
theorem d_Mo_undo_1 : decode c_Mo_undo 1 = .ok (.i2l, 1) := by decide +kernel
theorem d_Mo_undo_2 : decode c_Mo_undo 2 = .ok (.lconst 1, 1) := by decide +kernel
theorem d_Mo_undo_3 : decode c_Mo_undo 3 = .ok (.ldc2_w 194, 3) := by decide +kernel
theorem d_Mo_undo_6 : decode c_Mo_undo 6 = .ok (.invokestatic 63, 3) := by decide +kernel
theorem d_Mo_undo_9 : decode c_Mo_undo 9 = .ok (.ifCond .ne 6, 3) := by decide +kernel
theorem d_Mo_undo_12 : decode c_Mo_undo 12 = .ok (.ldc 144, 2) := by decide +kernel
theorem d_Mo_undo_14 : decode c_Mo_undo 14 = .ok (.ireturn, 1) := by decide +kernel
theorem d_Mo_undo_15 : decode c_Mo_undo 15 = .ok (.iload_n 1, 1) := by decide +kernel
theorem d_Mo_undo_16 : decode c_Mo_undo 16 = .ok (.aload_n 0, 1) := by decide +kernel
theorem d_Mo_undo_17 : decode c_Mo_undo 17 = .ok (.getfield 141, 3) := by decide +kernel
theorem d_Mo_undo_20 : decode c_Mo_undo 20 = .ok (.if_icmp .le 6, 3) := by decide +kernel
theorem d_Mo_undo_23 : decode c_Mo_undo 23 = .ok (.ldc 175, 2) := by decide +kernel
theorem d_Mo_undo_25 : decode c_Mo_undo 25 = .ok (.ireturn, 1) := by decide +kernel
theorem d_Mo_undo_26 : decode c_Mo_undo 26 = .ok (.aload_n 0, 1) := by decide +kernel
theorem d_Mo_undo_27 : decode c_Mo_undo 27 = .ok (.dup, 1) := by decide +kernel
theorem d_Mo_undo_28 : decode c_Mo_undo 28 = .ok (.getfield 141, 3) := by decide +kernel
theorem d_Mo_undo_31 : decode c_Mo_undo 31 = .ok (.iload_n 1, 1) := by decide +kernel
theorem d_Mo_undo_32 : decode c_Mo_undo 32 = .ok (.isub, 1) := by decide +kernel
theorem d_Mo_undo_33 : decode c_Mo_undo 33 = .ok (.putfield 141, 3) := by decide +kernel
theorem d_Mo_undo_36 : decode c_Mo_undo 36 = .ok (.aload_n 0, 1) := by decide +kernel
theorem d_Mo_undo_37 : decode c_Mo_undo 37 = .ok (.aload_n 0, 1) := by decide +kernel
theorem d_Mo_undo_38 : decode c_Mo_undo 38 = .ok (.getfield 17, 3) := by decide +kernel
theorem d_Mo_undo_41 : decode c_Mo_undo 41 = .ok (.aload_n 0, 1) := by decide +kernel
theorem d_Mo_undo_42 : decode c_Mo_undo 42 = .ok (.getfield 20, 3) := by decide +kernel
theorem d_Mo_undo_45 : decode c_Mo_undo 45 = .ok (.aload_n 0, 1) := by decide +kernel
theorem d_Mo_undo_46 : decode c_Mo_undo 46 = .ok (.getfield 141, 3) := by decide +kernel
theorem d_Mo_undo_49 : decode c_Mo_undo 49 = .ok (.invokevirtual 199, 3) := by decide +kernel
theorem d_Mo_undo_52 : decode c_Mo_undo 52 = .ok (.aload_n 0, 1) := by decide +kernel
theorem d_Mo_undo_53 : decode c_Mo_undo 53 = .ok (.invokevirtual 59, 3) := by decide +kernel
theorem d_Mo_undo_56 : decode c_Mo_undo 56 = .ok (.ireturn, 1) := by decide +kernel
theorem d_Mo_near_0 : decode c_Mo_near 0 = .ok (.lconst 0, 1) := by decide +kernel
theorem d_Mo_near_1 : decode c_Mo_near 1 = .ok (.lstore_n 2, 1) := by decide +kernel
theorem d_Mo_near_2 : decode c_Mo_near 2 = .ok (.iconst 0, 1) := by decide +kernel
theorem d_Mo_near_3 : decode c_Mo_near 3 = .ok (.istore 4, 2) := by decide +kernel
theorem d_Mo_near_5 : decode c_Mo_near 5 = .ok (.iload 4, 2) := by decide +kernel
theorem d_Mo_near_7 : decode c_Mo_near 7 = .ok (.aload_n 0, 1) := by decide +kernel
theorem d_Mo_near_8 : decode c_Mo_near 8 = .ok (.invokevirtual 59, 3) := by decide +kernel
theorem d_Mo_near_11 : decode c_Mo_near 11 = .ok (.if_icmp .ge 110, 3) := by decide +kernel
theorem d_Mo_near_14 : decode c_Mo_near 14 = .ok (.iload_n 1, 1) := by decide +kernel
theorem d_Mo_near_15 : decode c_Mo_near 15 = .ok (.i2l, 1) := by decide +kernel
theorem d_Mo_near_16 : decode c_Mo_near 16 = .ok (.lconst 0, 1) := by decide +kernel
theorem d_Mo_near_17 : decode c_Mo_near 17 = .ok (.ldc2_w 202, 3) := by decide +kernel
theorem d_Mo_near_20 : decode c_Mo_near 20 = .ok (.invokestatic 63, 3) := by decide +kernel
theorem d_Mo_near_23 : decode c_Mo_near 23 = .ok (.ifCond .eq 98, 3) := by decide +kernel
theorem d_Mo_near_26 : decode c_Mo_near 26 = .ok (.iload_n 1, 1) := by decide +kernel
theorem d_Mo_near_27 : decode c_Mo_near 27 = .ok (.aload_n 0, 1) := by decide +kernel
theorem d_Mo_near_28 : decode c_Mo_near 28 = .ok (.invokevirtual 86, 3) := by decide +kernel
theorem d_Mo_near_31 : decode c_Mo_near 31 = .ok (.iconst 1, 1) := by decide +kernel
theorem d_Mo_near_32 : decode c_Mo_near 32 = .ok (.isub, 1) := by decide +kernel
theorem d_Mo_near_33 : decode c_Mo_near 33 = .ok (.if_icmp .ge 15, 3) := by decide +kernel
theorem d_Mo_near_36 : decode c_Mo_near 36 = .ok (.aload_n 0, 1) := by decide +kernel
theorem d_Mo_near_37 : decode c_Mo_near 37 = .ok (.iload 4, 2) := by decide +kernel
theorem d_Mo_near_39 : decode c_Mo_near 39 = .ok (.invokevirtual 82, 3) := by decide +kernel
theorem d_Mo_near_42 : decode c_Mo_near 42 = .ok (.iload_n 1, 1) := by decide +kernel
theorem d_Mo_near_43 : decode c_Mo_near 43 = .ok (.iconst 2, 1) := by decide +kernel
theorem d_Mo_near_44 : decode c_Mo_near 44 = .ok (.idiv, 1) := by decide +kernel
theorem d_Mo_near_45 : decode c_Mo_near 45 = .ok (.if_icmp .gt 7, 3) := by decide +kernel
theorem d_Mo_near_48 : decode c_Mo_near 48 = .ok (.iconst 1, 1) := by decide +kernel
theorem d_Mo_near_49 : decode c_Mo_near 49 = .ok (.goto 4, 3) := by decide +kernel
theorem d_Mo_near_52 : decode c_Mo_near 52 = .ok (.iconst 0, 1) := by decide +kernel
theorem d_Mo_near_53 : decode c_Mo_near 53 = .ok (.istore 5, 2) := by decide +kernel
theorem d_Mo_near_55 : decode c_Mo_near 55 = .ok (.aload_n 0, 1) := by decide +kernel
theorem d_Mo_near_56 : decode c_Mo_near 56 = .ok (.iload 4, 2) := by decide +kernel
theorem d_Mo_near_58 : decode c_Mo_near 58 = .ok (.invokevirtual 82, 3) := by decide +kernel
theorem d_Mo_near_61 : decode c_Mo_near 61 = .ok (.iload_n 1, 1) := by decide +kernel
theorem d_Mo_near_62 : decode c_Mo_near 62 = .ok (.if_icmp .gt 34, 3) := by decide +kernel
theorem d_Mo_near_65 : decode c_Mo_near 65 = .ok (.aload_n 0, 1) := by decide +kernel
theorem d_Mo_near_66 : decode c_Mo_near 66 = .ok (.getfield 13, 3) := by decide +kernel
theorem d_Mo_near_69 : decode c_Mo_near 69 = .ok (.iload 4, 2) := by decide +kernel
theorem d_Mo_near_71 : decode c_Mo_near 71 = .ok (.iaload, 1) := by decide +kernel
theorem d_Mo_near_72 : decode c_Mo_near 72 = .ok (.iconst 1, 1) := by decide +kernel
theorem d_Mo_near_73 : decode c_Mo_near 73 = .ok (.if_icmp .eq 23, 3) := by decide +kernel
theorem d_Mo_near_76 : decode c_Mo_near 76 = .ok (.aload_n 0, 1) := by decide +kernel
theorem d_Mo_near_77 : decode c_Mo_near 77 = .ok (.getfield 13, 3) := by decide +kernel
theorem d_Mo_near_80 : decode c_Mo_near 80 = .ok (.iload 4, 2) := by decide +kernel
theorem d_Mo_near_82 : decode c_Mo_near 82 = .ok (.iaload, 1) := by decide +kernel
theorem d_Mo_near_83 : decode c_Mo_near 83 = .ok (.iconst 2, 1) := by decide +kernel
theorem d_Mo_near_84 : decode c_Mo_near 84 = .ok (.if_icmp .ne 8, 3) := by decide +kernel
theorem d_Mo_near_87 : decode c_Mo_near 87 = .ok (.iload 5, 2) := by decide +kernel
theorem d_Mo_near_89 : decode c_Mo_near 89 = .ok (.ifCond .eq 7, 3) := by decide +kernel
theorem d_Mo_near_92 : decode c_Mo_near 92 = .ok (.iconst 1, 1) := by decide +kernel
theorem d_Mo_near_93 : decode c_Mo_near 93 = .ok (.goto 4, 3) := by decide +kernel
theorem d_Mo_near_96 : decode c_Mo_near 96 = .ok (.iconst 0, 1) := by decide +kernel
theorem d_Mo_near_97 : decode c_Mo_near 97 = .ok (.istore 6, 2) := by decide +kernel
theorem d_Mo_near_99 : decode c_Mo_near 99 = .ok (.lload_n 2, 1) := by decide +kernel
theorem d_Mo_near_100 : decode c_Mo_near 100 = .ok (.iload 6, 2) := by decide +kernel
theorem d_Mo_near_102 : decode c_Mo_near 102 = .ok (.ifCond .eq 10, 3) := by decide +kernel
theorem d_Mo_near_105 : decode c_Mo_near 105 = .ok (.lconst 1, 1) := by decide +kernel
theorem d_Mo_near_106 : decode c_Mo_near 106 = .ok (.iload 4, 2) := by decide +kernel
theorem d_Mo_near_108 : decode c_Mo_near 108 = .ok (.lshl, 1) := by decide +kernel
theorem d_Mo_near_109 : decode c_Mo_near 109 = .ok (.goto 4, 3) := by decide +kernel
theorem d_Mo_near_112 : decode c_Mo_near 112 = .ok (.lconst 0, 1) := by decide +kernel
theorem d_Mo_near_113 : decode c_Mo_near 113 = .ok (.lor, 1) := by decide +kernel
theorem d_Mo_near_114 : decode c_Mo_near 114 = .ok (.lstore_n 2, 1) := by decide +kernel
theorem d_Mo_near_115 : decode c_Mo_near 115 = .ok (.iinc 4 1, 3) := by decide +kernel
theorem d_Mo_near_118 : decode c_Mo_near 118 = .ok (.goto (-113), 3) := by decide +kernel
theorem d_Mo_near_121 : decode c_Mo_near 121 = .ok (.lload_n 2, 1) := by decide +kernel
theorem d_Mo_near_122 : decode c_Mo_near 122 = .ok (.lreturn, 1) := by decide +kernel
theorem d_Mo_nearest_0 : decode c_Mo_nearest 0 = .ok (.iload_n 1, 1) := by decide +kernel
theorem d_Mo_nearest_1 : decode c_Mo_nearest 1 = .ok (.ifCond .ge 7, 3) := by decide +kernel
theorem d_Mo_nearest_4 : decode c_Mo_nearest 4 = .ok (.iconst (-1), 1) := by decide +kernel
theorem d_Mo_nearest_5 : decode c_Mo_nearest 5 = .ok (.goto 8, 3) := by decide +kernel
theorem d_Mo_nearest_8 : decode c_Mo_nearest 8 = .ok (.aload_n 0, 1) := by decide +kernel
theorem d_Mo_nearest_9 : decode c_Mo_nearest 9 = .ok (.iload_n 1, 1) := by decide +kernel
theorem d_Mo_nearest_10 : decode c_Mo_nearest 10 = .ok (.invokevirtual 117, 3) := by decide +kernel
theorem d_Mo_nearest_13 : decode c_Mo_nearest 13 = .ok (.ireturn, 1) := by decide +kernel
theorem d_Mo_apart_0 : decode c_Mo_apart 0 = .ok (.aload_n 0, 1) := by decide +kernel
theorem d_Mo_apart_1 : decode c_Mo_apart 1 = .ok (.iload_n 1, 1) := by decide +kernel
theorem d_Mo_apart_2 : decode c_Mo_apart 2 = .ok (.invokevirtual 114, 3) := by decide +kernel
theorem d_Mo_apart_5 : decode c_Mo_apart 5 = .ok (.ifCond .eq 33, 3) := by decide +kernel
theorem d_Mo_apart_8 : decode c_Mo_apart 8 = .ok (.aload_n 0, 1) := by decide +kernel
theorem d_Mo_apart_9 : decode c_Mo_apart 9 = .ok (.iload_n 2, 1) := by decide +kernel
theorem d_Mo_apart_10 : decode c_Mo_apart 10 = .ok (.invokevirtual 114, 3) := by decide +kernel
theorem d_Mo_apart_13 : decode c_Mo_apart 13 = .ok (.ifCond .eq 25, 3) := by decide +kernel
theorem d_Mo_apart_16 : decode c_Mo_apart 16 = .ok (.iload_n 1, 1) := by decide +kernel
theorem d_Mo_apart_17 : decode c_Mo_apart 17 = .ok (.iload_n 2, 1) := by decide +kernel
theorem d_Mo_apart_18 : decode c_Mo_apart 18 = .ok (.if_icmp .eq 20, 3) := by decide +kernel
theorem d_Mo_apart_21 : decode c_Mo_apart 21 = .ok (.aload_n 0, 1) := by decide +kernel
theorem d_Mo_apart_22 : decode c_Mo_apart 22 = .ok (.iload_n 1, 1) := by decide +kernel
theorem d_Mo_apart_23 : decode c_Mo_apart 23 = .ok (.invokevirtual 67, 3) := by decide +kernel
theorem d_Mo_apart_26 : decode c_Mo_apart 26 = .ok (.aload_n 0, 1) := by decide +kernel
theorem d_Mo_apart_27 : decode c_Mo_apart 27 = .ok (.iload_n 2, 1) := by decide +kernel
theorem d_Mo_apart_28 : decode c_Mo_apart 28 = .ok (.invokevirtual 67, 3) := by decide +kernel
theorem d_Mo_apart_31 : decode c_Mo_apart 31 = .ok (.lxor, 1) := by decide +kernel
theorem d_Mo_apart_32 : decode c_Mo_apart 32 = .ok (.invokestatic 71, 3) := by decide +kernel
theorem d_Mo_apart_35 : decode c_Mo_apart 35 = .ok (.goto 5, 3) := by decide +kernel
theorem d_Mo_apart_38 : decode c_Mo_apart 38 = .ok (.ldc 145, 2) := by decide +kernel
theorem d_Mo_apart_40 : decode c_Mo_apart 40 = .ok (.ireturn, 1) := by decide +kernel
theorem d_Mo_layGroups_0 : decode c_Mo_layGroups 0 = .ok (.iconst 0, 1) := by decide +kernel
theorem d_Mo_layGroups_1 : decode c_Mo_layGroups 1 = .ok (.istore_n 2, 1) := by decide +kernel
theorem d_Mo_layGroups_2 : decode c_Mo_layGroups 2 = .ok (.iload_n 2, 1) := by decide +kernel
theorem d_Mo_layGroups_3 : decode c_Mo_layGroups 3 = .ok (.aload_n 0, 1) := by decide +kernel
theorem d_Mo_layGroups_4 : decode c_Mo_layGroups 4 = .ok (.invokevirtual 59, 3) := by decide +kernel
theorem d_Mo_layGroups_7 : decode c_Mo_layGroups 7 = .ok (.if_icmp .ge 16, 3) := by decide +kernel
theorem d_Mo_layGroups_10 : decode c_Mo_layGroups 10 = .ok (.aload_n 0, 1) := by decide +kernel
theorem d_Mo_layGroups_11 : decode c_Mo_layGroups 11 = .ok (.getfield 51, 3) := by decide +kernel
theorem d_Mo_layGroups_14 : decode c_Mo_layGroups 14 = .ok (.iload_n 2, 1) := by decide +kernel
theorem d_Mo_layGroups_15 : decode c_Mo_layGroups 15 = .ok (.iload_n 2, 1) := by decide +kernel
theorem d_Mo_layGroups_16 : decode c_Mo_layGroups 16 = .ok (.iastore, 1) := by decide +kernel
theorem d_Mo_layGroups_17 : decode c_Mo_layGroups 17 = .ok (.iinc 2 1, 3) := by decide +kernel
theorem d_Mo_layGroups_20 : decode c_Mo_layGroups 20 = .ok (.goto (-18), 3) := by decide +kernel
theorem d_Mo_layGroups_23 : decode c_Mo_layGroups 23 = .ok (.iconst 1, 1) := by decide +kernel
theorem d_Mo_layGroups_24 : decode c_Mo_layGroups 24 = .ok (.istore_n 2, 1) := by decide +kernel
theorem d_Mo_layGroups_25 : decode c_Mo_layGroups 25 = .ok (.iload_n 2, 1) := by decide +kernel
theorem d_Mo_layGroups_26 : decode c_Mo_layGroups 26 = .ok (.ifCond .eq 92, 3) := by decide +kernel
theorem d_Mo_layGroups_29 : decode c_Mo_layGroups 29 = .ok (.iconst 0, 1) := by decide +kernel
theorem d_Mo_layGroups_30 : decode c_Mo_layGroups 30 = .ok (.istore_n 2, 1) := by decide +kernel
theorem d_Mo_layGroups_31 : decode c_Mo_layGroups 31 = .ok (.iconst 0, 1) := by decide +kernel
theorem d_Mo_layGroups_32 : decode c_Mo_layGroups 32 = .ok (.istore_n 3, 1) := by decide +kernel
theorem d_Mo_layGroups_33 : decode c_Mo_layGroups 33 = .ok (.iload_n 3, 1) := by decide +kernel
theorem d_Mo_layGroups_34 : decode c_Mo_layGroups 34 = .ok (.aload_n 0, 1) := by decide +kernel
theorem d_Mo_layGroups_35 : decode c_Mo_layGroups 35 = .ok (.invokevirtual 59, 3) := by decide +kernel
theorem d_Mo_layGroups_38 : decode c_Mo_layGroups 38 = .ok (.if_icmp .ge 77, 3) := by decide +kernel
theorem d_Mo_layGroups_41 : decode c_Mo_layGroups 41 = .ok (.iconst 0, 1) := by decide +kernel
theorem d_Mo_layGroups_42 : decode c_Mo_layGroups 42 = .ok (.istore 4, 2) := by decide +kernel
theorem d_Mo_layGroups_44 : decode c_Mo_layGroups 44 = .ok (.iload 4, 2) := by decide +kernel
theorem d_Mo_layGroups_46 : decode c_Mo_layGroups 46 = .ok (.aload_n 0, 1) := by decide +kernel
theorem d_Mo_layGroups_47 : decode c_Mo_layGroups 47 = .ok (.invokevirtual 59, 3) := by decide +kernel
theorem d_Mo_layGroups_50 : decode c_Mo_layGroups 50 = .ok (.if_icmp .ge 59, 3) := by decide +kernel
theorem d_Mo_layGroups_53 : decode c_Mo_layGroups 53 = .ok (.aload_n 0, 1) := by decide +kernel
theorem d_Mo_layGroups_54 : decode c_Mo_layGroups 54 = .ok (.getfield 51, 3) := by decide +kernel
theorem d_Mo_layGroups_57 : decode c_Mo_layGroups 57 = .ok (.iload_n 3, 1) := by decide +kernel
theorem d_Mo_layGroups_58 : decode c_Mo_layGroups 58 = .ok (.iaload, 1) := by decide +kernel
theorem d_Mo_layGroups_59 : decode c_Mo_layGroups 59 = .ok (.aload_n 0, 1) := by decide +kernel
theorem d_Mo_layGroups_60 : decode c_Mo_layGroups 60 = .ok (.getfield 51, 3) := by decide +kernel
theorem d_Mo_layGroups_63 : decode c_Mo_layGroups 63 = .ok (.iload 4, 2) := by decide +kernel
theorem d_Mo_layGroups_65 : decode c_Mo_layGroups 65 = .ok (.iaload, 1) := by decide +kernel
theorem d_Mo_layGroups_66 : decode c_Mo_layGroups 66 = .ok (.if_icmp .ge 37, 3) := by decide +kernel
theorem d_Mo_layGroups_69 : decode c_Mo_layGroups 69 = .ok (.aload_n 0, 1) := by decide +kernel
theorem d_Mo_layGroups_70 : decode c_Mo_layGroups 70 = .ok (.iload_n 3, 1) := by decide +kernel
theorem d_Mo_layGroups_71 : decode c_Mo_layGroups 71 = .ok (.invokevirtual 67, 3) := by decide +kernel
theorem d_Mo_layGroups_74 : decode c_Mo_layGroups 74 = .ok (.aload_n 0, 1) := by decide +kernel
theorem d_Mo_layGroups_75 : decode c_Mo_layGroups 75 = .ok (.iload 4, 2) := by decide +kernel
theorem d_Mo_layGroups_77 : decode c_Mo_layGroups 77 = .ok (.invokevirtual 67, 3) := by decide +kernel
theorem d_Mo_layGroups_80 : decode c_Mo_layGroups 80 = .ok (.lxor, 1) := by decide +kernel
theorem d_Mo_layGroups_81 : decode c_Mo_layGroups 81 = .ok (.invokestatic 71, 3) := by decide +kernel
theorem d_Mo_layGroups_84 : decode c_Mo_layGroups 84 = .ok (.iload_n 1, 1) := by decide +kernel
theorem d_Mo_layGroups_85 : decode c_Mo_layGroups 85 = .ok (.if_icmp .gt 18, 3) := by decide +kernel
theorem d_Mo_layGroups_88 : decode c_Mo_layGroups 88 = .ok (.aload_n 0, 1) := by decide +kernel
theorem d_Mo_layGroups_89 : decode c_Mo_layGroups 89 = .ok (.getfield 51, 3) := by decide +kernel
theorem d_Mo_layGroups_92 : decode c_Mo_layGroups 92 = .ok (.iload 4, 2) := by decide +kernel
theorem d_Mo_layGroups_94 : decode c_Mo_layGroups 94 = .ok (.aload_n 0, 1) := by decide +kernel
theorem d_Mo_layGroups_95 : decode c_Mo_layGroups 95 = .ok (.getfield 51, 3) := by decide +kernel
theorem d_Mo_layGroups_98 : decode c_Mo_layGroups 98 = .ok (.iload_n 3, 1) := by decide +kernel
theorem d_Mo_layGroups_99 : decode c_Mo_layGroups 99 = .ok (.iaload, 1) := by decide +kernel
theorem d_Mo_layGroups_100 : decode c_Mo_layGroups 100 = .ok (.iastore, 1) := by decide +kernel
theorem d_Mo_layGroups_101 : decode c_Mo_layGroups 101 = .ok (.iconst 1, 1) := by decide +kernel
theorem d_Mo_layGroups_102 : decode c_Mo_layGroups 102 = .ok (.istore_n 2, 1) := by decide +kernel
theorem d_Mo_layGroups_103 : decode c_Mo_layGroups 103 = .ok (.iinc 4 1, 3) := by decide +kernel
theorem d_Mo_layGroups_106 : decode c_Mo_layGroups 106 = .ok (.goto (-62), 3) := by decide +kernel
theorem d_Mo_layGroups_109 : decode c_Mo_layGroups 109 = .ok (.iinc 3 1, 3) := by decide +kernel
theorem d_Mo_layGroups_112 : decode c_Mo_layGroups 112 = .ok (.goto (-79), 3) := by decide +kernel
theorem d_Mo_layGroups_115 : decode c_Mo_layGroups 115 = .ok (.goto (-90), 3) := by decide +kernel
theorem d_Mo_layGroups_118 : decode c_Mo_layGroups 118 = .ok (.iconst 0, 1) := by decide +kernel
theorem d_Mo_layGroups_119 : decode c_Mo_layGroups 119 = .ok (.istore_n 3, 1) := by decide +kernel
theorem d_Mo_layGroups_120 : decode c_Mo_layGroups 120 = .ok (.iconst 0, 1) := by decide +kernel
theorem d_Mo_layGroups_121 : decode c_Mo_layGroups 121 = .ok (.istore 4, 2) := by decide +kernel
theorem d_Mo_layGroups_123 : decode c_Mo_layGroups 123 = .ok (.iload 4, 2) := by decide +kernel
theorem d_Mo_layGroups_125 : decode c_Mo_layGroups 125 = .ok (.aload_n 0, 1) := by decide +kernel
theorem d_Mo_layGroups_126 : decode c_Mo_layGroups 126 = .ok (.invokevirtual 59, 3) := by decide +kernel
theorem d_Mo_layGroups_129 : decode c_Mo_layGroups 129 = .ok (.if_icmp .ge 29, 3) := by decide +kernel
theorem d_Mo_layGroups_132 : decode c_Mo_layGroups 132 = .ok (.iload_n 3, 1) := by decide +kernel
theorem d_Mo_layGroups_133 : decode c_Mo_layGroups 133 = .ok (.aload_n 0, 1) := by decide +kernel
theorem d_Mo_layGroups_134 : decode c_Mo_layGroups 134 = .ok (.getfield 51, 3) := by decide +kernel
theorem d_Mo_layGroups_137 : decode c_Mo_layGroups 137 = .ok (.iload 4, 2) := by decide +kernel
theorem d_Mo_layGroups_139 : decode c_Mo_layGroups 139 = .ok (.iaload, 1) := by decide +kernel
theorem d_Mo_layGroups_140 : decode c_Mo_layGroups 140 = .ok (.iload 4, 2) := by decide +kernel
theorem d_Mo_layGroups_142 : decode c_Mo_layGroups 142 = .ok (.if_icmp .ne 7, 3) := by decide +kernel
theorem d_Mo_layGroups_145 : decode c_Mo_layGroups 145 = .ok (.iconst 1, 1) := by decide +kernel
theorem d_Mo_layGroups_146 : decode c_Mo_layGroups 146 = .ok (.goto 4, 3) := by decide +kernel
theorem d_Mo_layGroups_149 : decode c_Mo_layGroups 149 = .ok (.iconst 0, 1) := by decide +kernel
theorem d_Mo_layGroups_150 : decode c_Mo_layGroups 150 = .ok (.iadd, 1) := by decide +kernel
theorem d_Mo_layGroups_151 : decode c_Mo_layGroups 151 = .ok (.istore_n 3, 1) := by decide +kernel
theorem d_Mo_layGroups_152 : decode c_Mo_layGroups 152 = .ok (.iinc 4 1, 3) := by decide +kernel
theorem d_Mo_layGroups_155 : decode c_Mo_layGroups 155 = .ok (.goto (-32), 3) := by decide +kernel
theorem d_Mo_layGroups_158 : decode c_Mo_layGroups 158 = .ok (.iload_n 3, 1) := by decide +kernel
theorem d_Mo_layGroups_159 : decode c_Mo_layGroups 159 = .ok (.ireturn, 1) := by decide +kernel
theorem d_Mo_leastOf_0 : decode c_Mo_leastOf 0 = .ok (.iload_n 1, 1) := by decide +kernel
theorem d_Mo_leastOf_1 : decode c_Mo_leastOf 1 = .ok (.istore_n 2, 1) := by decide +kernel
theorem d_Mo_leastOf_2 : decode c_Mo_leastOf 2 = .ok (.iconst 0, 1) := by decide +kernel
theorem d_Mo_leastOf_3 : decode c_Mo_leastOf 3 = .ok (.istore_n 3, 1) := by decide +kernel
theorem d_Mo_leastOf_4 : decode c_Mo_leastOf 4 = .ok (.aload_n 0, 1) := by decide +kernel
theorem d_Mo_leastOf_5 : decode c_Mo_leastOf 5 = .ok (.getfield 51, 3) := by decide +kernel
theorem d_Mo_leastOf_8 : decode c_Mo_leastOf 8 = .ok (.iload_n 3, 1) := by decide +kernel
theorem d_Mo_leastOf_9 : decode c_Mo_leastOf 9 = .ok (.iaload, 1) := by decide +kernel
theorem d_Mo_leastOf_10 : decode c_Mo_leastOf 10 = .ok (.iload_n 3, 1) := by decide +kernel
theorem d_Mo_leastOf_11 : decode c_Mo_leastOf 11 = .ok (.if_icmp .ne 7, 3) := by decide +kernel
theorem d_Mo_leastOf_14 : decode c_Mo_leastOf 14 = .ok (.iload_n 2, 1) := by decide +kernel
theorem d_Mo_leastOf_15 : decode c_Mo_leastOf 15 = .ok (.ifCond .le 27, 3) := by decide +kernel
theorem d_Mo_leastOf_18 : decode c_Mo_leastOf 18 = .ok (.iload_n 2, 1) := by decide +kernel
theorem d_Mo_leastOf_19 : decode c_Mo_leastOf 19 = .ok (.aload_n 0, 1) := by decide +kernel
theorem d_Mo_leastOf_20 : decode c_Mo_leastOf 20 = .ok (.getfield 51, 3) := by decide +kernel
theorem d_Mo_leastOf_23 : decode c_Mo_leastOf 23 = .ok (.iload_n 3, 1) := by decide +kernel
theorem d_Mo_leastOf_24 : decode c_Mo_leastOf 24 = .ok (.iaload, 1) := by decide +kernel
theorem d_Mo_leastOf_25 : decode c_Mo_leastOf 25 = .ok (.iload_n 3, 1) := by decide +kernel
theorem d_Mo_leastOf_26 : decode c_Mo_leastOf 26 = .ok (.if_icmp .ne 7, 3) := by decide +kernel
theorem d_Mo_leastOf_29 : decode c_Mo_leastOf 29 = .ok (.iconst 1, 1) := by decide +kernel
theorem d_Mo_leastOf_30 : decode c_Mo_leastOf 30 = .ok (.goto 4, 3) := by decide +kernel
theorem d_Mo_leastOf_33 : decode c_Mo_leastOf 33 = .ok (.iconst 0, 1) := by decide +kernel
theorem d_Mo_leastOf_34 : decode c_Mo_leastOf 34 = .ok (.isub, 1) := by decide +kernel
theorem d_Mo_leastOf_35 : decode c_Mo_leastOf 35 = .ok (.istore_n 2, 1) := by decide +kernel
theorem d_Mo_leastOf_36 : decode c_Mo_leastOf 36 = .ok (.iinc 3 1, 3) := by decide +kernel
theorem d_Mo_leastOf_39 : decode c_Mo_leastOf 39 = .ok (.goto (-35), 3) := by decide +kernel
theorem d_Mo_leastOf_42 : decode c_Mo_leastOf 42 = .ok (.iload_n 3, 1) := by decide +kernel
theorem d_Mo_leastOf_43 : decode c_Mo_leastOf 43 = .ok (.ireturn, 1) := by decide +kernel
theorem d_Mo_groups_0 : decode c_Mo_groups 0 = .ok (.iload_n 1, 1) := by decide +kernel
theorem d_Mo_groups_1 : decode c_Mo_groups 1 = .ok (.i2l, 1) := by decide +kernel
theorem d_Mo_groups_2 : decode c_Mo_groups 2 = .ok (.lconst 0, 1) := by decide +kernel
theorem d_Mo_groups_3 : decode c_Mo_groups 3 = .ok (.ldc2_w 202, 3) := by decide +kernel
theorem d_Mo_groups_6 : decode c_Mo_groups 6 = .ok (.invokestatic 63, 3) := by decide +kernel
theorem d_Mo_groups_9 : decode c_Mo_groups 9 = .ok (.ifCond .eq 11, 3) := by decide +kernel
theorem d_Mo_groups_12 : decode c_Mo_groups 12 = .ok (.aload_n 0, 1) := by decide +kernel
theorem d_Mo_groups_13 : decode c_Mo_groups 13 = .ok (.iload_n 1, 1) := by decide +kernel
theorem d_Mo_groups_14 : decode c_Mo_groups 14 = .ok (.invokevirtual 204, 3) := by decide +kernel
theorem d_Mo_groups_17 : decode c_Mo_groups 17 = .ok (.goto 5, 3) := by decide +kernel
theorem d_Mo_groups_20 : decode c_Mo_groups 20 = .ok (.ldc 144, 2) := by decide +kernel
theorem d_Mo_groups_22 : decode c_Mo_groups 22 = .ok (.ireturn, 1) := by decide +kernel
theorem d_Mo_manyOf_0 : decode c_Mo_manyOf 0 = .ok (.iconst 0, 1) := by decide +kernel
theorem d_Mo_manyOf_1 : decode c_Mo_manyOf 1 = .ok (.istore_n 2, 1) := by decide +kernel
theorem d_Mo_manyOf_2 : decode c_Mo_manyOf 2 = .ok (.iconst 0, 1) := by decide +kernel
theorem d_Mo_manyOf_3 : decode c_Mo_manyOf 3 = .ok (.istore_n 3, 1) := by decide +kernel
theorem d_Mo_manyOf_4 : decode c_Mo_manyOf 4 = .ok (.iload_n 3, 1) := by decide +kernel
theorem d_Mo_manyOf_5 : decode c_Mo_manyOf 5 = .ok (.aload_n 0, 1) := by decide +kernel
theorem d_Mo_manyOf_6 : decode c_Mo_manyOf 6 = .ok (.invokevirtual 59, 3) := by decide +kernel
theorem d_Mo_manyOf_9 : decode c_Mo_manyOf 9 = .ok (.if_icmp .ge 27, 3) := by decide +kernel
theorem d_Mo_manyOf_12 : decode c_Mo_manyOf 12 = .ok (.iload_n 2, 1) := by decide +kernel
theorem d_Mo_manyOf_13 : decode c_Mo_manyOf 13 = .ok (.aload_n 0, 1) := by decide +kernel
theorem d_Mo_manyOf_14 : decode c_Mo_manyOf 14 = .ok (.getfield 51, 3) := by decide +kernel
theorem d_Mo_manyOf_17 : decode c_Mo_manyOf 17 = .ok (.iload_n 3, 1) := by decide +kernel
theorem d_Mo_manyOf_18 : decode c_Mo_manyOf 18 = .ok (.iaload, 1) := by decide +kernel
theorem d_Mo_manyOf_19 : decode c_Mo_manyOf 19 = .ok (.iload_n 1, 1) := by decide +kernel
theorem d_Mo_manyOf_20 : decode c_Mo_manyOf 20 = .ok (.if_icmp .ne 7, 3) := by decide +kernel
theorem d_Mo_manyOf_23 : decode c_Mo_manyOf 23 = .ok (.iconst 1, 1) := by decide +kernel
theorem d_Mo_manyOf_24 : decode c_Mo_manyOf 24 = .ok (.goto 4, 3) := by decide +kernel
theorem d_Mo_manyOf_27 : decode c_Mo_manyOf 27 = .ok (.iconst 0, 1) := by decide +kernel
theorem d_Mo_manyOf_28 : decode c_Mo_manyOf 28 = .ok (.iadd, 1) := by decide +kernel
theorem d_Mo_manyOf_29 : decode c_Mo_manyOf 29 = .ok (.istore_n 2, 1) := by decide +kernel
theorem d_Mo_manyOf_30 : decode c_Mo_manyOf 30 = .ok (.iinc 3 1, 3) := by decide +kernel
theorem d_Mo_manyOf_33 : decode c_Mo_manyOf 33 = .ok (.goto (-29), 3) := by decide +kernel
theorem d_Mo_manyOf_36 : decode c_Mo_manyOf 36 = .ok (.iload_n 2, 1) := by decide +kernel
theorem d_Mo_manyOf_37 : decode c_Mo_manyOf 37 = .ok (.ireturn, 1) := by decide +kernel
theorem d_Mo_wide_0 : decode c_Mo_wide 0 = .ok (.iconst 0, 1) := by decide +kernel
theorem d_Mo_wide_1 : decode c_Mo_wide 1 = .ok (.istore_n 2, 1) := by decide +kernel
theorem d_Mo_wide_2 : decode c_Mo_wide 2 = .ok (.iconst 0, 1) := by decide +kernel
theorem d_Mo_wide_3 : decode c_Mo_wide 3 = .ok (.istore_n 3, 1) := by decide +kernel
theorem d_Mo_wide_4 : decode c_Mo_wide 4 = .ok (.iload_n 3, 1) := by decide +kernel
theorem d_Mo_wide_5 : decode c_Mo_wide 5 = .ok (.aload_n 0, 1) := by decide +kernel
theorem d_Mo_wide_6 : decode c_Mo_wide 6 = .ok (.invokevirtual 59, 3) := by decide +kernel
theorem d_Mo_wide_9 : decode c_Mo_wide 9 = .ok (.if_icmp .ge 79, 3) := by decide +kernel
theorem d_Mo_wide_12 : decode c_Mo_wide 12 = .ok (.iconst 0, 1) := by decide +kernel
theorem d_Mo_wide_13 : decode c_Mo_wide 13 = .ok (.istore 4, 2) := by decide +kernel
theorem d_Mo_wide_15 : decode c_Mo_wide 15 = .ok (.iload 4, 2) := by decide +kernel
theorem d_Mo_wide_17 : decode c_Mo_wide 17 = .ok (.iload_n 3, 1) := by decide +kernel
theorem d_Mo_wide_18 : decode c_Mo_wide 18 = .ok (.if_icmp .ge 64, 3) := by decide +kernel
theorem d_Mo_wide_21 : decode c_Mo_wide 21 = .ok (.aload_n 0, 1) := by decide +kernel
theorem d_Mo_wide_22 : decode c_Mo_wide 22 = .ok (.getfield 51, 3) := by decide +kernel
theorem d_Mo_wide_25 : decode c_Mo_wide 25 = .ok (.iload_n 3, 1) := by decide +kernel
theorem d_Mo_wide_26 : decode c_Mo_wide 26 = .ok (.iaload, 1) := by decide +kernel
theorem d_Mo_wide_27 : decode c_Mo_wide 27 = .ok (.iload_n 1, 1) := by decide +kernel
theorem d_Mo_wide_28 : decode c_Mo_wide 28 = .ok (.if_icmp .ne 32, 3) := by decide +kernel
theorem d_Mo_wide_31 : decode c_Mo_wide 31 = .ok (.aload_n 0, 1) := by decide +kernel
theorem d_Mo_wide_32 : decode c_Mo_wide 32 = .ok (.getfield 51, 3) := by decide +kernel
theorem d_Mo_wide_35 : decode c_Mo_wide 35 = .ok (.iload 4, 2) := by decide +kernel
theorem d_Mo_wide_37 : decode c_Mo_wide 37 = .ok (.iaload, 1) := by decide +kernel
theorem d_Mo_wide_38 : decode c_Mo_wide 38 = .ok (.iload_n 1, 1) := by decide +kernel
theorem d_Mo_wide_39 : decode c_Mo_wide 39 = .ok (.if_icmp .ne 21, 3) := by decide +kernel
theorem d_Mo_wide_42 : decode c_Mo_wide 42 = .ok (.aload_n 0, 1) := by decide +kernel
theorem d_Mo_wide_43 : decode c_Mo_wide 43 = .ok (.iload_n 3, 1) := by decide +kernel
theorem d_Mo_wide_44 : decode c_Mo_wide 44 = .ok (.invokevirtual 67, 3) := by decide +kernel
theorem d_Mo_wide_47 : decode c_Mo_wide 47 = .ok (.aload_n 0, 1) := by decide +kernel
theorem d_Mo_wide_48 : decode c_Mo_wide 48 = .ok (.iload 4, 2) := by decide +kernel
theorem d_Mo_wide_50 : decode c_Mo_wide 50 = .ok (.invokevirtual 67, 3) := by decide +kernel
theorem d_Mo_wide_53 : decode c_Mo_wide 53 = .ok (.lxor, 1) := by decide +kernel
theorem d_Mo_wide_54 : decode c_Mo_wide 54 = .ok (.invokestatic 71, 3) := by decide +kernel
theorem d_Mo_wide_57 : decode c_Mo_wide 57 = .ok (.goto 4, 3) := by decide +kernel
theorem d_Mo_wide_60 : decode c_Mo_wide 60 = .ok (.iconst 0, 1) := by decide +kernel
theorem d_Mo_wide_61 : decode c_Mo_wide 61 = .ok (.istore 5, 2) := by decide +kernel
theorem d_Mo_wide_63 : decode c_Mo_wide 63 = .ok (.iload 5, 2) := by decide +kernel
theorem d_Mo_wide_65 : decode c_Mo_wide 65 = .ok (.iload_n 2, 1) := by decide +kernel
theorem d_Mo_wide_66 : decode c_Mo_wide 66 = .ok (.if_icmp .le 8, 3) := by decide +kernel
theorem d_Mo_wide_69 : decode c_Mo_wide 69 = .ok (.iload 5, 2) := by decide +kernel
theorem d_Mo_wide_71 : decode c_Mo_wide 71 = .ok (.goto 4, 3) := by decide +kernel
theorem d_Mo_wide_74 : decode c_Mo_wide 74 = .ok (.iload_n 2, 1) := by decide +kernel
theorem d_Mo_wide_75 : decode c_Mo_wide 75 = .ok (.istore_n 2, 1) := by decide +kernel
theorem d_Mo_wide_76 : decode c_Mo_wide 76 = .ok (.iinc 4 1, 3) := by decide +kernel
theorem d_Mo_wide_79 : decode c_Mo_wide 79 = .ok (.goto (-64), 3) := by decide +kernel
theorem d_Mo_wide_82 : decode c_Mo_wide 82 = .ok (.iinc 3 1, 3) := by decide +kernel
theorem d_Mo_wide_85 : decode c_Mo_wide 85 = .ok (.goto (-81), 3) := by decide +kernel
theorem d_Mo_wide_88 : decode c_Mo_wide 88 = .ok (.iload_n 2, 1) := by decide +kernel
theorem d_Mo_wide_89 : decode c_Mo_wide 89 = .ok (.ireturn, 1) := by decide +kernel
theorem d_Mo_group_0 : decode c_Mo_group 0 = .ok (.iload_n 1, 1) := by decide +kernel
theorem d_Mo_group_1 : decode c_Mo_group 1 = .ok (.i2l, 1) := by decide +kernel
theorem d_Mo_group_2 : decode c_Mo_group 2 = .ok (.lconst 0, 1) := by decide +kernel
theorem d_Mo_group_3 : decode c_Mo_group 3 = .ok (.ldc2_w 202, 3) := by decide +kernel
theorem d_Mo_group_6 : decode c_Mo_group 6 = .ok (.invokestatic 63, 3) := by decide +kernel
theorem d_Mo_group_9 : decode c_Mo_group 9 = .ok (.ifCond .ne 6, 3) := by decide +kernel
theorem d_Mo_group_12 : decode c_Mo_group 12 = .ok (.ldc 144, 2) := by decide +kernel
theorem d_Mo_group_14 : decode c_Mo_group 14 = .ok (.ireturn, 1) := by decide +kernel
theorem d_Mo_group_15 : decode c_Mo_group 15 = .ok (.iload_n 2, 1) := by decide +kernel
theorem d_Mo_group_16 : decode c_Mo_group 16 = .ok (.i2l, 1) := by decide +kernel
theorem d_Mo_group_17 : decode c_Mo_group 17 = .ok (.lconst 0, 1) := by decide +kernel
theorem d_Mo_group_18 : decode c_Mo_group 18 = .ok (.aload_n 0, 1) := by decide +kernel
theorem d_Mo_group_19 : decode c_Mo_group 19 = .ok (.iload_n 1, 1) := by decide +kernel
theorem d_Mo_group_20 : decode c_Mo_group 20 = .ok (.invokevirtual 204, 3) := by decide +kernel
theorem d_Mo_group_23 : decode c_Mo_group 23 = .ok (.iconst 1, 1) := by decide +kernel
theorem d_Mo_group_24 : decode c_Mo_group 24 = .ok (.isub, 1) := by decide +kernel
theorem d_Mo_group_25 : decode c_Mo_group 25 = .ok (.i2l, 1) := by decide +kernel
theorem d_Mo_group_26 : decode c_Mo_group 26 = .ok (.invokestatic 63, 3) := by decide +kernel
theorem d_Mo_group_29 : decode c_Mo_group 29 = .ok (.ifCond .ne 6, 3) := by decide +kernel
theorem d_Mo_group_32 : decode c_Mo_group 32 = .ok (.ldc 145, 2) := by decide +kernel
theorem d_Mo_group_34 : decode c_Mo_group 34 = .ok (.ireturn, 1) := by decide +kernel
theorem d_Mo_group_35 : decode c_Mo_group 35 = .ok (.aload_n 0, 1) := by decide +kernel
theorem d_Mo_group_36 : decode c_Mo_group 36 = .ok (.iload_n 2, 1) := by decide +kernel
theorem d_Mo_group_37 : decode c_Mo_group 37 = .ok (.invokevirtual 207, 3) := by decide +kernel
theorem d_Mo_group_40 : decode c_Mo_group 40 = .ok (.istore 4, 2) := by decide +kernel
theorem d_Mo_group_42 : decode c_Mo_group 42 = .ok (.iload_n 3, 1) := by decide +kernel
theorem d_Mo_group_43 : decode c_Mo_group 43 = .ok (.tableswitch 42 0 2 #[25, 32, 35], 25) := by decide +kernel
theorem d_Mo_group_68 : decode c_Mo_group 68 = .ok (.aload_n 0, 1) := by decide +kernel
theorem d_Mo_group_69 : decode c_Mo_group 69 = .ok (.iload 4, 2) := by decide +kernel
theorem d_Mo_group_71 : decode c_Mo_group 71 = .ok (.invokevirtual 210, 3) := by decide +kernel
theorem d_Mo_group_74 : decode c_Mo_group 74 = .ok (.ireturn, 1) := by decide +kernel
theorem d_Mo_group_75 : decode c_Mo_group 75 = .ok (.iload 4, 2) := by decide +kernel
theorem d_Mo_group_77 : decode c_Mo_group 77 = .ok (.ireturn, 1) := by decide +kernel
theorem d_Mo_group_78 : decode c_Mo_group 78 = .ok (.aload_n 0, 1) := by decide +kernel
theorem d_Mo_group_79 : decode c_Mo_group 79 = .ok (.iload 4, 2) := by decide +kernel
theorem d_Mo_group_81 : decode c_Mo_group 81 = .ok (.invokevirtual 213, 3) := by decide +kernel
theorem d_Mo_group_84 : decode c_Mo_group 84 = .ok (.ireturn, 1) := by decide +kernel
theorem d_Mo_group_85 : decode c_Mo_group 85 = .ok (.ldc 144, 2) := by decide +kernel
theorem d_Mo_group_87 : decode c_Mo_group 87 = .ok (.ireturn, 1) := by decide +kernel
theorem d_Mo_middle_0 : decode c_Mo_middle 0 = .ok (.iload_n 1, 1) := by decide +kernel
theorem d_Mo_middle_1 : decode c_Mo_middle 1 = .ok (.i2l, 1) := by decide +kernel
theorem d_Mo_middle_2 : decode c_Mo_middle 2 = .ok (.lconst 0, 1) := by decide +kernel
theorem d_Mo_middle_3 : decode c_Mo_middle 3 = .ok (.ldc2_w 202, 3) := by decide +kernel
theorem d_Mo_middle_6 : decode c_Mo_middle 6 = .ok (.invokestatic 63, 3) := by decide +kernel
theorem d_Mo_middle_9 : decode c_Mo_middle 9 = .ok (.ifCond .eq 20, 3) := by decide +kernel
theorem d_Mo_middle_12 : decode c_Mo_middle 12 = .ok (.iload_n 2, 1) := by decide +kernel
theorem d_Mo_middle_13 : decode c_Mo_middle 13 = .ok (.i2l, 1) := by decide +kernel
theorem d_Mo_middle_14 : decode c_Mo_middle 14 = .ok (.lconst 0, 1) := by decide +kernel
theorem d_Mo_middle_15 : decode c_Mo_middle 15 = .ok (.aload_n 0, 1) := by decide +kernel
theorem d_Mo_middle_16 : decode c_Mo_middle 16 = .ok (.iload_n 1, 1) := by decide +kernel
theorem d_Mo_middle_17 : decode c_Mo_middle 17 = .ok (.invokevirtual 204, 3) := by decide +kernel
theorem d_Mo_middle_20 : decode c_Mo_middle 20 = .ok (.iconst 1, 1) := by decide +kernel
theorem d_Mo_middle_21 : decode c_Mo_middle 21 = .ok (.isub, 1) := by decide +kernel
theorem d_Mo_middle_22 : decode c_Mo_middle 22 = .ok (.i2l, 1) := by decide +kernel
theorem d_Mo_middle_23 : decode c_Mo_middle 23 = .ok (.invokestatic 63, 3) := by decide +kernel
theorem d_Mo_middle_26 : decode c_Mo_middle 26 = .ok (.ifCond .ne 5, 3) := by decide +kernel
theorem d_Mo_middle_29 : decode c_Mo_middle 29 = .ok (.lconst 0, 1) := by decide +kernel
theorem d_Mo_middle_30 : decode c_Mo_middle 30 = .ok (.lreturn, 1) := by decide +kernel
theorem d_Mo_middle_31 : decode c_Mo_middle 31 = .ok (.aload_n 0, 1) := by decide +kernel
theorem d_Mo_middle_32 : decode c_Mo_middle 32 = .ok (.iload_n 2, 1) := by decide +kernel
theorem d_Mo_middle_33 : decode c_Mo_middle 33 = .ok (.invokevirtual 207, 3) := by decide +kernel
theorem d_Mo_middle_36 : decode c_Mo_middle 36 = .ok (.istore_n 3, 1) := by decide +kernel
theorem d_Mo_middle_37 : decode c_Mo_middle 37 = .ok (.lconst 0, 1) := by decide +kernel
theorem d_Mo_middle_38 : decode c_Mo_middle 38 = .ok (.lstore 4, 2) := by decide +kernel
theorem d_Mo_middle_40 : decode c_Mo_middle 40 = .ok (.iconst 0, 1) := by decide +kernel
theorem d_Mo_middle_41 : decode c_Mo_middle 41 = .ok (.istore 6, 2) := by decide +kernel
theorem d_Mo_middle_43 : decode c_Mo_middle 43 = .ok (.iload 6, 2) := by decide +kernel
theorem d_Mo_middle_45 : decode c_Mo_middle 45 = .ok (.bipush 64, 2) := by decide +kernel
theorem d_Mo_middle_47 : decode c_Mo_middle 47 = .ok (.if_icmp .ge 90, 3) := by decide +kernel
theorem d_Mo_middle_50 : decode c_Mo_middle 50 = .ok (.iconst 0, 1) := by decide +kernel
theorem d_Mo_middle_51 : decode c_Mo_middle 51 = .ok (.istore 7, 2) := by decide +kernel
theorem d_Mo_middle_53 : decode c_Mo_middle 53 = .ok (.iconst 0, 1) := by decide +kernel
theorem d_Mo_middle_54 : decode c_Mo_middle 54 = .ok (.istore 8, 2) := by decide +kernel
theorem d_Mo_middle_56 : decode c_Mo_middle 56 = .ok (.iload 8, 2) := by decide +kernel
theorem d_Mo_middle_58 : decode c_Mo_middle 58 = .ok (.aload_n 0, 1) := by decide +kernel
theorem d_Mo_middle_59 : decode c_Mo_middle 59 = .ok (.invokevirtual 59, 3) := by decide +kernel
theorem d_Mo_middle_62 : decode c_Mo_middle 62 = .ok (.if_icmp .ge 44, 3) := by decide +kernel
theorem d_Mo_middle_65 : decode c_Mo_middle 65 = .ok (.iload 7, 2) := by decide +kernel
theorem d_Mo_middle_67 : decode c_Mo_middle 67 = .ok (.aload_n 0, 1) := by decide +kernel
theorem d_Mo_middle_68 : decode c_Mo_middle 68 = .ok (.getfield 51, 3) := by decide +kernel
theorem d_Mo_middle_71 : decode c_Mo_middle 71 = .ok (.iload 8, 2) := by decide +kernel
theorem d_Mo_middle_73 : decode c_Mo_middle 73 = .ok (.iaload, 1) := by decide +kernel
theorem d_Mo_middle_74 : decode c_Mo_middle 74 = .ok (.iload_n 3, 1) := by decide +kernel
theorem d_Mo_middle_75 : decode c_Mo_middle 75 = .ok (.if_icmp .ne 21, 3) := by decide +kernel
theorem d_Mo_middle_78 : decode c_Mo_middle 78 = .ok (.aload_n 0, 1) := by decide +kernel
theorem d_Mo_middle_79 : decode c_Mo_middle 79 = .ok (.iload 8, 2) := by decide +kernel
theorem d_Mo_middle_81 : decode c_Mo_middle 81 = .ok (.invokevirtual 67, 3) := by decide +kernel
theorem d_Mo_middle_84 : decode c_Mo_middle 84 = .ok (.iload 6, 2) := by decide +kernel
theorem d_Mo_middle_86 : decode c_Mo_middle 86 = .ok (.invokestatic 75, 3) := by decide +kernel
theorem d_Mo_middle_89 : decode c_Mo_middle 89 = .ok (.ifCond .eq 7, 3) := by decide +kernel
theorem d_Mo_middle_92 : decode c_Mo_middle 92 = .ok (.iconst 1, 1) := by decide +kernel
theorem d_Mo_middle_93 : decode c_Mo_middle 93 = .ok (.goto 4, 3) := by decide +kernel
theorem d_Mo_middle_96 : decode c_Mo_middle 96 = .ok (.iconst 0, 1) := by decide +kernel
theorem d_Mo_middle_97 : decode c_Mo_middle 97 = .ok (.iadd, 1) := by decide +kernel
theorem d_Mo_middle_98 : decode c_Mo_middle 98 = .ok (.istore 7, 2) := by decide +kernel
theorem d_Mo_middle_100 : decode c_Mo_middle 100 = .ok (.iinc 8 1, 3) := by decide +kernel
theorem d_Mo_middle_103 : decode c_Mo_middle 103 = .ok (.goto (-47), 3) := by decide +kernel
theorem d_Mo_middle_106 : decode c_Mo_middle 106 = .ok (.lload 4, 2) := by decide +kernel
theorem d_Mo_middle_108 : decode c_Mo_middle 108 = .ok (.iconst 2, 1) := by decide +kernel
theorem d_Mo_middle_109 : decode c_Mo_middle 109 = .ok (.iload 7, 2) := by decide +kernel
theorem d_Mo_middle_111 : decode c_Mo_middle 111 = .ok (.imul, 1) := by decide +kernel
theorem d_Mo_middle_112 : decode c_Mo_middle 112 = .ok (.aload_n 0, 1) := by decide +kernel
theorem d_Mo_middle_113 : decode c_Mo_middle 113 = .ok (.iload_n 3, 1) := by decide +kernel
theorem d_Mo_middle_114 : decode c_Mo_middle 114 = .ok (.invokevirtual 210, 3) := by decide +kernel
theorem d_Mo_middle_117 : decode c_Mo_middle 117 = .ok (.if_icmp .le 10, 3) := by decide +kernel
theorem d_Mo_middle_120 : decode c_Mo_middle 120 = .ok (.lconst 1, 1) := by decide +kernel
theorem d_Mo_middle_121 : decode c_Mo_middle 121 = .ok (.iload 6, 2) := by decide +kernel
theorem d_Mo_middle_123 : decode c_Mo_middle 123 = .ok (.lshl, 1) := by decide +kernel
theorem d_Mo_middle_124 : decode c_Mo_middle 124 = .ok (.goto 4, 3) := by decide +kernel
theorem d_Mo_middle_127 : decode c_Mo_middle 127 = .ok (.lconst 0, 1) := by decide +kernel
theorem d_Mo_middle_128 : decode c_Mo_middle 128 = .ok (.lor, 1) := by decide +kernel
theorem d_Mo_middle_129 : decode c_Mo_middle 129 = .ok (.lstore 4, 2) := by decide +kernel
theorem d_Mo_middle_131 : decode c_Mo_middle 131 = .ok (.iinc 6 1, 3) := by decide +kernel
theorem d_Mo_middle_134 : decode c_Mo_middle 134 = .ok (.goto (-91), 3) := by decide +kernel
theorem d_Mo_middle_137 : decode c_Mo_middle 137 = .ok (.lload 4, 2) := by decide +kernel
theorem d_Mo_middle_139 : decode c_Mo_middle 139 = .ok (.lreturn, 1) := by decide +kernel
theorem d_Mo_isMore_0 : decode c_Mo_isMore 0 = .ok (.bipush 64, 2) := by decide +kernel
theorem d_Mo_isMore_2 : decode c_Mo_isMore 2 = .ok (.iload_n 1, 1) := by decide +kernel
theorem d_Mo_isMore_3 : decode c_Mo_isMore 3 = .ok (.irem, 1) := by decide +kernel
theorem d_Mo_isMore_4 : decode c_Mo_isMore 4 = .ok (.istore_n 3, 1) := by decide +kernel
theorem d_Mo_isMore_5 : decode c_Mo_isMore 5 = .ok (.iload_n 2, 1) := by decide +kernel
theorem d_Mo_isMore_6 : decode c_Mo_isMore 6 = .ok (.iconst 2, 1) := by decide +kernel
theorem d_Mo_isMore_7 : decode c_Mo_isMore 7 = .ok (.if_icmp .ge 33, 3) := by decide +kernel
theorem d_Mo_isMore_10 : decode c_Mo_isMore 10 = .ok (.iload_n 2, 1) := by decide +kernel
theorem d_Mo_isMore_11 : decode c_Mo_isMore 11 = .ok (.ifCond .ne 16, 3) := by decide +kernel
theorem d_Mo_isMore_14 : decode c_Mo_isMore 14 = .ok (.iload_n 0, 1) := by decide +kernel
theorem d_Mo_isMore_15 : decode c_Mo_isMore 15 = .ok (.iload_n 3, 1) := by decide +kernel
theorem d_Mo_isMore_16 : decode c_Mo_isMore 16 = .ok (.if_icmp .ge 7, 3) := by decide +kernel
theorem d_Mo_isMore_19 : decode c_Mo_isMore 19 = .ok (.iconst 1, 1) := by decide +kernel
theorem d_Mo_isMore_20 : decode c_Mo_isMore 20 = .ok (.goto 19, 3) := by decide +kernel
theorem d_Mo_isMore_23 : decode c_Mo_isMore 23 = .ok (.iconst 0, 1) := by decide +kernel
theorem d_Mo_isMore_24 : decode c_Mo_isMore 24 = .ok (.goto 15, 3) := by decide +kernel
theorem d_Mo_isMore_27 : decode c_Mo_isMore 27 = .ok (.iload_n 0, 1) := by decide +kernel
theorem d_Mo_isMore_28 : decode c_Mo_isMore 28 = .ok (.iload_n 1, 1) := by decide +kernel
theorem d_Mo_isMore_29 : decode c_Mo_isMore 29 = .ok (.iload_n 3, 1) := by decide +kernel
theorem d_Mo_isMore_30 : decode c_Mo_isMore 30 = .ok (.isub, 1) := by decide +kernel
theorem d_Mo_isMore_31 : decode c_Mo_isMore 31 = .ok (.if_icmp .lt 7, 3) := by decide +kernel
theorem d_Mo_isMore_34 : decode c_Mo_isMore 34 = .ok (.iconst 1, 1) := by decide +kernel
theorem d_Mo_isMore_35 : decode c_Mo_isMore 35 = .ok (.goto 4, 3) := by decide +kernel
theorem d_Mo_isMore_38 : decode c_Mo_isMore 38 = .ok (.iconst 0, 1) := by decide +kernel
theorem d_Mo_isMore_39 : decode c_Mo_isMore 39 = .ok (.ireturn, 1) := by decide +kernel
theorem d_Mo_isMore_40 : decode c_Mo_isMore 40 = .ok (.iload_n 0, 1) := by decide +kernel
theorem d_Mo_isMore_41 : decode c_Mo_isMore 41 = .ok (.iconst 2, 1) := by decide +kernel
theorem d_Mo_isMore_42 : decode c_Mo_isMore 42 = .ok (.irem, 1) := by decide +kernel
theorem d_Mo_isMore_43 : decode c_Mo_isMore 43 = .ok (.ifCond .ne 9, 3) := by decide +kernel
theorem d_Mo_isMore_46 : decode c_Mo_isMore 46 = .ok (.iload_n 0, 1) := by decide +kernel
theorem d_Mo_isMore_47 : decode c_Mo_isMore 47 = .ok (.iconst 2, 1) := by decide +kernel
theorem d_Mo_isMore_48 : decode c_Mo_isMore 48 = .ok (.idiv, 1) := by decide +kernel
theorem d_Mo_isMore_49 : decode c_Mo_isMore 49 = .ok (.goto 12, 3) := by decide +kernel
theorem d_Mo_isMore_52 : decode c_Mo_isMore 52 = .ok (.iload_n 1, 1) := by decide +kernel
theorem d_Mo_isMore_53 : decode c_Mo_isMore 53 = .ok (.iconst 1, 1) := by decide +kernel
theorem d_Mo_isMore_54 : decode c_Mo_isMore 54 = .ok (.iadd, 1) := by decide +kernel
theorem d_Mo_isMore_55 : decode c_Mo_isMore 55 = .ok (.iconst 2, 1) := by decide +kernel
theorem d_Mo_isMore_56 : decode c_Mo_isMore 56 = .ok (.idiv, 1) := by decide +kernel
theorem d_Mo_isMore_57 : decode c_Mo_isMore 57 = .ok (.iload_n 0, 1) := by decide +kernel
theorem d_Mo_isMore_58 : decode c_Mo_isMore 58 = .ok (.iconst 2, 1) := by decide +kernel
theorem d_Mo_isMore_59 : decode c_Mo_isMore 59 = .ok (.idiv, 1) := by decide +kernel
theorem d_Mo_isMore_60 : decode c_Mo_isMore 60 = .ok (.iadd, 1) := by decide +kernel
theorem d_Mo_isMore_61 : decode c_Mo_isMore 61 = .ok (.istore 4, 2) := by decide +kernel
theorem d_Mo_isMore_63 : decode c_Mo_isMore 63 = .ok (.iload 4, 2) := by decide +kernel
theorem d_Mo_isMore_65 : decode c_Mo_isMore 65 = .ok (.iload_n 3, 1) := by decide +kernel
theorem d_Mo_isMore_66 : decode c_Mo_isMore 66 = .ok (.if_icmp .ge 7, 3) := by decide +kernel
theorem d_Mo_isMore_69 : decode c_Mo_isMore 69 = .ok (.iconst 1, 1) := by decide +kernel
theorem d_Mo_isMore_70 : decode c_Mo_isMore 70 = .ok (.goto 4, 3) := by decide +kernel
theorem d_Mo_isMore_73 : decode c_Mo_isMore 73 = .ok (.iconst 0, 1) := by decide +kernel
theorem d_Mo_isMore_74 : decode c_Mo_isMore 74 = .ok (.ireturn, 1) := by decide +kernel
theorem d_Mo_cutBy_0 : decode c_Mo_cutBy 0 = .ok (.lconst 0, 1) := by decide +kernel
theorem d_Mo_cutBy_1 : decode c_Mo_cutBy 1 = .ok (.lstore_n 2, 1) := by decide +kernel
theorem d_Mo_cutBy_2 : decode c_Mo_cutBy 2 = .ok (.iconst 0, 1) := by decide +kernel
theorem d_Mo_cutBy_3 : decode c_Mo_cutBy 3 = .ok (.istore 4, 2) := by decide +kernel
theorem d_Mo_cutBy_5 : decode c_Mo_cutBy 5 = .ok (.iconst 0, 1) := by decide +kernel
theorem d_Mo_cutBy_6 : decode c_Mo_cutBy 6 = .ok (.istore 5, 2) := by decide +kernel
theorem d_Mo_cutBy_8 : decode c_Mo_cutBy 8 = .ok (.iload 5, 2) := by decide +kernel
theorem d_Mo_cutBy_10 : decode c_Mo_cutBy 10 = .ok (.iload_n 0, 1) := by decide +kernel
theorem d_Mo_cutBy_11 : decode c_Mo_cutBy 11 = .ok (.if_icmp .ge 41, 3) := by decide +kernel
theorem d_Mo_cutBy_14 : decode c_Mo_cutBy 14 = .ok (.lload_n 2, 1) := by decide +kernel
theorem d_Mo_cutBy_15 : decode c_Mo_cutBy 15 = .ok (.lconst 1, 1) := by decide +kernel
theorem d_Mo_cutBy_16 : decode c_Mo_cutBy 16 = .ok (.iload 4, 2) := by decide +kernel
theorem d_Mo_cutBy_18 : decode c_Mo_cutBy 18 = .ok (.lshl, 1) := by decide +kernel
theorem d_Mo_cutBy_19 : decode c_Mo_cutBy 19 = .ok (.lor, 1) := by decide +kernel
theorem d_Mo_cutBy_20 : decode c_Mo_cutBy 20 = .ok (.lstore_n 2, 1) := by decide +kernel
theorem d_Mo_cutBy_21 : decode c_Mo_cutBy 21 = .ok (.iload 4, 2) := by decide +kernel
theorem d_Mo_cutBy_23 : decode c_Mo_cutBy 23 = .ok (.bipush 64, 2) := by decide +kernel
theorem d_Mo_cutBy_25 : decode c_Mo_cutBy 25 = .ok (.iload_n 0, 1) := by decide +kernel
theorem d_Mo_cutBy_26 : decode c_Mo_cutBy 26 = .ok (.idiv, 1) := by decide +kernel
theorem d_Mo_cutBy_27 : decode c_Mo_cutBy 27 = .ok (.iload 5, 2) := by decide +kernel
theorem d_Mo_cutBy_29 : decode c_Mo_cutBy 29 = .ok (.iload_n 0, 1) := by decide +kernel
theorem d_Mo_cutBy_30 : decode c_Mo_cutBy 30 = .ok (.iload_n 1, 1) := by decide +kernel
theorem d_Mo_cutBy_31 : decode c_Mo_cutBy 31 = .ok (.invokestatic 216, 3) := by decide +kernel
theorem d_Mo_cutBy_34 : decode c_Mo_cutBy 34 = .ok (.ifCond .eq 7, 3) := by decide +kernel
theorem d_Mo_cutBy_37 : decode c_Mo_cutBy 37 = .ok (.iconst 1, 1) := by decide +kernel
theorem d_Mo_cutBy_38 : decode c_Mo_cutBy 38 = .ok (.goto 4, 3) := by decide +kernel
theorem d_Mo_cutBy_41 : decode c_Mo_cutBy 41 = .ok (.iconst 0, 1) := by decide +kernel
theorem d_Mo_cutBy_42 : decode c_Mo_cutBy 42 = .ok (.iadd, 1) := by decide +kernel
theorem d_Mo_cutBy_43 : decode c_Mo_cutBy 43 = .ok (.iadd, 1) := by decide +kernel
theorem d_Mo_cutBy_44 : decode c_Mo_cutBy 44 = .ok (.istore 4, 2) := by decide +kernel
theorem d_Mo_cutBy_46 : decode c_Mo_cutBy 46 = .ok (.iinc 5 1, 3) := by decide +kernel
theorem d_Mo_cutBy_49 : decode c_Mo_cutBy 49 = .ok (.goto (-41), 3) := by decide +kernel
theorem d_Mo_cutBy_52 : decode c_Mo_cutBy 52 = .ok (.lload_n 2, 1) := by decide +kernel
theorem d_Mo_cutBy_53 : decode c_Mo_cutBy 53 = .ok (.lreturn, 1) := by decide +kernel
theorem d_Mo_fewest_0 : decode c_Mo_fewest 0 = .ok (.iload_n 1, 1) := by decide +kernel
theorem d_Mo_fewest_1 : decode c_Mo_fewest 1 = .ok (.i2l, 1) := by decide +kernel
theorem d_Mo_fewest_2 : decode c_Mo_fewest 2 = .ok (.lconst 1, 1) := by decide +kernel
theorem d_Mo_fewest_3 : decode c_Mo_fewest 3 = .ok (.ldc2_w 220, 3) := by decide +kernel
theorem d_Mo_fewest_6 : decode c_Mo_fewest 6 = .ok (.invokestatic 63, 3) := by decide +kernel
theorem d_Mo_fewest_9 : decode c_Mo_fewest 9 = .ok (.ifCond .eq 13, 3) := by decide +kernel
theorem d_Mo_fewest_12 : decode c_Mo_fewest 12 = .ok (.iload_n 2, 1) := by decide +kernel
theorem d_Mo_fewest_13 : decode c_Mo_fewest 13 = .ok (.i2l, 1) := by decide +kernel
theorem d_Mo_fewest_14 : decode c_Mo_fewest 14 = .ok (.lconst 0, 1) := by decide +kernel
theorem d_Mo_fewest_15 : decode c_Mo_fewest 15 = .ok (.lconst 1, 1) := by decide +kernel
theorem d_Mo_fewest_16 : decode c_Mo_fewest 16 = .ok (.invokestatic 63, 3) := by decide +kernel
theorem d_Mo_fewest_19 : decode c_Mo_fewest 19 = .ok (.ifCond .ne 6, 3) := by decide +kernel
theorem d_Mo_fewest_22 : decode c_Mo_fewest 22 = .ok (.ldc 144, 2) := by decide +kernel
theorem d_Mo_fewest_24 : decode c_Mo_fewest 24 = .ok (.ireturn, 1) := by decide +kernel
theorem d_Mo_fewest_25 : decode c_Mo_fewest 25 = .ok (.iconst 0, 1) := by decide +kernel
theorem d_Mo_fewest_26 : decode c_Mo_fewest 26 = .ok (.istore_n 3, 1) := by decide +kernel
theorem d_Mo_fewest_27 : decode c_Mo_fewest 27 = .ok (.iconst 0, 1) := by decide +kernel
theorem d_Mo_fewest_28 : decode c_Mo_fewest 28 = .ok (.istore 4, 2) := by decide +kernel
theorem d_Mo_fewest_30 : decode c_Mo_fewest 30 = .ok (.iconst 0, 1) := by decide +kernel
theorem d_Mo_fewest_31 : decode c_Mo_fewest 31 = .ok (.istore 5, 2) := by decide +kernel
theorem d_Mo_fewest_33 : decode c_Mo_fewest 33 = .ok (.iload 5, 2) := by decide +kernel
theorem d_Mo_fewest_35 : decode c_Mo_fewest 35 = .ok (.iconst 3, 1) := by decide +kernel
theorem d_Mo_fewest_36 : decode c_Mo_fewest 36 = .ok (.if_icmp .ge 122, 3) := by decide +kernel
theorem d_Mo_fewest_39 : decode c_Mo_fewest 39 = .ok (.iconst 0, 1) := by decide +kernel
theorem d_Mo_fewest_40 : decode c_Mo_fewest 40 = .ok (.istore 6, 2) := by decide +kernel
theorem d_Mo_fewest_42 : decode c_Mo_fewest 42 = .ok (.iconst 0, 1) := by decide +kernel
theorem d_Mo_fewest_43 : decode c_Mo_fewest 43 = .ok (.istore 7, 2) := by decide +kernel
theorem d_Mo_fewest_45 : decode c_Mo_fewest 45 = .ok (.iload 7, 2) := by decide +kernel
theorem d_Mo_fewest_47 : decode c_Mo_fewest 47 = .ok (.aload_n 0, 1) := by decide +kernel
theorem d_Mo_fewest_48 : decode c_Mo_fewest 48 = .ok (.invokevirtual 59, 3) := by decide +kernel
theorem d_Mo_fewest_51 : decode c_Mo_fewest 51 = .ok (.if_icmp .ge 61, 3) := by decide +kernel
theorem d_Mo_fewest_54 : decode c_Mo_fewest 54 = .ok (.iconst 0, 1) := by decide +kernel
theorem d_Mo_fewest_55 : decode c_Mo_fewest 55 = .ok (.istore 8, 2) := by decide +kernel
theorem d_Mo_fewest_57 : decode c_Mo_fewest 57 = .ok (.iload 8, 2) := by decide +kernel
theorem d_Mo_fewest_59 : decode c_Mo_fewest 59 = .ok (.aload_n 0, 1) := by decide +kernel
theorem d_Mo_fewest_60 : decode c_Mo_fewest 60 = .ok (.invokevirtual 59, 3) := by decide +kernel
theorem d_Mo_fewest_63 : decode c_Mo_fewest 63 = .ok (.if_icmp .ge 43, 3) := by decide +kernel
theorem d_Mo_fewest_66 : decode c_Mo_fewest 66 = .ok (.iload 6, 2) := by decide +kernel
theorem d_Mo_fewest_68 : decode c_Mo_fewest 68 = .ok (.aload_n 0, 1) := by decide +kernel
theorem d_Mo_fewest_69 : decode c_Mo_fewest 69 = .ok (.iload 7, 2) := by decide +kernel
theorem d_Mo_fewest_71 : decode c_Mo_fewest 71 = .ok (.invokevirtual 67, 3) := by decide +kernel
theorem d_Mo_fewest_74 : decode c_Mo_fewest 74 = .ok (.aload_n 0, 1) := by decide +kernel
theorem d_Mo_fewest_75 : decode c_Mo_fewest 75 = .ok (.iload 8, 2) := by decide +kernel
theorem d_Mo_fewest_77 : decode c_Mo_fewest 77 = .ok (.invokevirtual 67, 3) := by decide +kernel
theorem d_Mo_fewest_80 : decode c_Mo_fewest 80 = .ok (.iload_n 1, 1) := by decide +kernel
theorem d_Mo_fewest_81 : decode c_Mo_fewest 81 = .ok (.iload 5, 2) := by decide +kernel
theorem d_Mo_fewest_83 : decode c_Mo_fewest 83 = .ok (.invokestatic 222, 3) := by decide +kernel
theorem d_Mo_fewest_86 : decode c_Mo_fewest 86 = .ok (.invokestatic 79, 3) := by decide +kernel
theorem d_Mo_fewest_89 : decode c_Mo_fewest 89 = .ok (.ifCond .eq 7, 3) := by decide +kernel
theorem d_Mo_fewest_92 : decode c_Mo_fewest 92 = .ok (.iconst 1, 1) := by decide +kernel
theorem d_Mo_fewest_93 : decode c_Mo_fewest 93 = .ok (.goto 4, 3) := by decide +kernel
theorem d_Mo_fewest_96 : decode c_Mo_fewest 96 = .ok (.iconst 0, 1) := by decide +kernel
theorem d_Mo_fewest_97 : decode c_Mo_fewest 97 = .ok (.iadd, 1) := by decide +kernel
theorem d_Mo_fewest_98 : decode c_Mo_fewest 98 = .ok (.istore 6, 2) := by decide +kernel
theorem d_Mo_fewest_100 : decode c_Mo_fewest 100 = .ok (.iinc 8 1, 3) := by decide +kernel
theorem d_Mo_fewest_103 : decode c_Mo_fewest 103 = .ok (.goto (-46), 3) := by decide +kernel
theorem d_Mo_fewest_106 : decode c_Mo_fewest 106 = .ok (.iinc 7 1, 3) := by decide +kernel
theorem d_Mo_fewest_109 : decode c_Mo_fewest 109 = .ok (.goto (-64), 3) := by decide +kernel
theorem d_Mo_fewest_112 : decode c_Mo_fewest 112 = .ok (.iload 5, 2) := by decide +kernel
theorem d_Mo_fewest_114 : decode c_Mo_fewest 114 = .ok (.ifCond .le 15, 3) := by decide +kernel
theorem d_Mo_fewest_117 : decode c_Mo_fewest 117 = .ok (.iload 6, 2) := by decide +kernel
theorem d_Mo_fewest_119 : decode c_Mo_fewest 119 = .ok (.iload 4, 2) := by decide +kernel
theorem d_Mo_fewest_121 : decode c_Mo_fewest 121 = .ok (.if_icmp .ge 8, 3) := by decide +kernel
theorem d_Mo_fewest_124 : decode c_Mo_fewest 124 = .ok (.iload 5, 2) := by decide +kernel
theorem d_Mo_fewest_126 : decode c_Mo_fewest 126 = .ok (.goto 4, 3) := by decide +kernel
theorem d_Mo_fewest_129 : decode c_Mo_fewest 129 = .ok (.iload_n 3, 1) := by decide +kernel
theorem d_Mo_fewest_130 : decode c_Mo_fewest 130 = .ok (.istore_n 3, 1) := by decide +kernel
theorem d_Mo_fewest_131 : decode c_Mo_fewest 131 = .ok (.iload 5, 2) := by decide +kernel
theorem d_Mo_fewest_133 : decode c_Mo_fewest 133 = .ok (.ifCond .eq 10, 3) := by decide +kernel
theorem d_Mo_fewest_136 : decode c_Mo_fewest 136 = .ok (.iload 6, 2) := by decide +kernel
theorem d_Mo_fewest_138 : decode c_Mo_fewest 138 = .ok (.iload 4, 2) := by decide +kernel
theorem d_Mo_fewest_140 : decode c_Mo_fewest 140 = .ok (.if_icmp .ge 8, 3) := by decide +kernel
theorem d_Mo_fewest_143 : decode c_Mo_fewest 143 = .ok (.iload 6, 2) := by decide +kernel
theorem d_Mo_fewest_145 : decode c_Mo_fewest 145 = .ok (.goto 5, 3) := by decide +kernel
theorem d_Mo_fewest_148 : decode c_Mo_fewest 148 = .ok (.iload 4, 2) := by decide +kernel
theorem d_Mo_fewest_150 : decode c_Mo_fewest 150 = .ok (.istore 4, 2) := by decide +kernel
theorem d_Mo_fewest_152 : decode c_Mo_fewest 152 = .ok (.iinc 5 1, 3) := by decide +kernel
theorem d_Mo_fewest_155 : decode c_Mo_fewest 155 = .ok (.goto (-122), 3) := by decide +kernel
theorem d_Mo_fewest_158 : decode c_Mo_fewest 158 = .ok (.iload_n 2, 1) := by decide +kernel
theorem d_Mo_fewest_159 : decode c_Mo_fewest 159 = .ok (.ifCond .ne 8, 3) := by decide +kernel
theorem d_Mo_fewest_162 : decode c_Mo_fewest 162 = .ok (.iload 4, 2) := by decide +kernel
theorem d_Mo_fewest_164 : decode c_Mo_fewest 164 = .ok (.goto 4, 3) := by decide +kernel
theorem d_Mo_fewest_167 : decode c_Mo_fewest 167 = .ok (.iload_n 3, 1) := by decide +kernel
theorem d_Mo_fewest_168 : decode c_Mo_fewest 168 = .ok (.ireturn, 1) := by decide +kernel
theorem d_Mo_see_0 : decode c_Mo_see 0 = .ok (.iload_n 1, 1) := by decide +kernel
theorem d_Mo_see_1 : decode c_Mo_see 1 = .ok (.i2l, 1) := by decide +kernel
theorem d_Mo_see_2 : decode c_Mo_see 2 = .ok (.lconst 0, 1) := by decide +kernel
theorem d_Mo_see_3 : decode c_Mo_see 3 = .ok (.ldc2_w 202, 3) := by decide +kernel
theorem d_Mo_see_6 : decode c_Mo_see 6 = .ok (.invokestatic 63, 3) := by decide +kernel
theorem d_Mo_see_9 : decode c_Mo_see 9 = .ok (.ifCond .ne 6, 3) := by decide +kernel
theorem d_Mo_see_12 : decode c_Mo_see 12 = .ok (.ldc 144, 2) := by decide +kernel
theorem d_Mo_see_14 : decode c_Mo_see 14 = .ok (.ireturn, 1) := by decide +kernel
theorem d_Mo_see_15 : decode c_Mo_see 15 = .ok (.aload_n 0, 1) := by decide +kernel
theorem d_Mo_see_16 : decode c_Mo_see 16 = .ok (.getfield 100, 3) := by decide +kernel
theorem d_Mo_see_19 : decode c_Mo_see 19 = .ok (.bipush 6, 2) := by decide +kernel
theorem d_Mo_see_21 : decode c_Mo_see 21 = .ok (.if_icmp .ne 6, 3) := by decide +kernel
theorem d_Mo_see_24 : decode c_Mo_see 24 = .ok (.ldc 176, 2) := by decide +kernel
theorem d_Mo_see_26 : decode c_Mo_see 26 = .ok (.ireturn, 1) := by decide +kernel
theorem d_Mo_see_27 : decode c_Mo_see 27 = .ok (.aload_n 0, 1) := by decide +kernel
theorem d_Mo_see_28 : decode c_Mo_see 28 = .ok (.getfield 36, 3) := by decide +kernel
theorem d_Mo_see_31 : decode c_Mo_see 31 = .ok (.aload_n 0, 1) := by decide +kernel
theorem d_Mo_see_32 : decode c_Mo_see 32 = .ok (.getfield 100, 3) := by decide +kernel
theorem d_Mo_see_35 : decode c_Mo_see 35 = .ok (.aload_n 0, 1) := by decide +kernel
theorem d_Mo_see_36 : decode c_Mo_see 36 = .ok (.getfield 7, 3) := by decide +kernel
theorem d_Mo_see_39 : decode c_Mo_see 39 = .ok (.iconst 0, 1) := by decide +kernel
theorem d_Mo_see_40 : decode c_Mo_see 40 = .ok (.laload, 1) := by decide +kernel
theorem d_Mo_see_41 : decode c_Mo_see 41 = .ok (.lastore, 1) := by decide +kernel
theorem d_Mo_see_42 : decode c_Mo_see 42 = .ok (.aload_n 0, 1) := by decide +kernel
theorem d_Mo_see_43 : decode c_Mo_see 43 = .ok (.getfield 39, 3) := by decide +kernel
theorem d_Mo_see_46 : decode c_Mo_see 46 = .ok (.aload_n 0, 1) := by decide +kernel
theorem d_Mo_see_47 : decode c_Mo_see 47 = .ok (.getfield 100, 3) := by decide +kernel
theorem d_Mo_see_50 : decode c_Mo_see 50 = .ok (.iload_n 1, 1) := by decide +kernel
theorem d_Mo_see_51 : decode c_Mo_see 51 = .ok (.iastore, 1) := by decide +kernel
theorem d_Mo_see_52 : decode c_Mo_see 52 = .ok (.aload_n 0, 1) := by decide +kernel
theorem d_Mo_see_53 : decode c_Mo_see 53 = .ok (.dup, 1) := by decide +kernel
theorem d_Mo_see_54 : decode c_Mo_see 54 = .ok (.getfield 100, 3) := by decide +kernel
theorem d_Mo_see_57 : decode c_Mo_see 57 = .ok (.iconst 1, 1) := by decide +kernel
theorem d_Mo_see_58 : decode c_Mo_see 58 = .ok (.iadd, 1) := by decide +kernel
theorem d_Mo_see_59 : decode c_Mo_see 59 = .ok (.putfield 100, 3) := by decide +kernel
theorem d_Mo_see_62 : decode c_Mo_see 62 = .ok (.aload_n 0, 1) := by decide +kernel
theorem d_Mo_see_63 : decode c_Mo_see 63 = .ok (.getfield 100, 3) := by decide +kernel
theorem d_Mo_see_66 : decode c_Mo_see 66 = .ok (.ireturn, 1) := by decide +kernel
theorem d_Mo_write_0 : decode c_Mo_write 0 = .ok (.aload_n 0, 1) := by decide +kernel
theorem d_Mo_write_1 : decode c_Mo_write 1 = .ok (.iload_n 1, 1) := by decide +kernel
theorem d_Mo_write_2 : decode c_Mo_write 2 = .ok (.invokevirtual 114, 3) := by decide +kernel
theorem d_Mo_write_5 : decode c_Mo_write 5 = .ok (.ifCond .eq 16, 3) := by decide +kernel
theorem d_Mo_write_8 : decode c_Mo_write 8 = .ok (.aload_n 0, 1) := by decide +kernel
theorem d_Mo_write_9 : decode c_Mo_write 9 = .ok (.iload_n 2, 1) := by decide +kernel
theorem d_Mo_write_10 : decode c_Mo_write 10 = .ok (.invokevirtual 114, 3) := by decide +kernel
theorem d_Mo_write_13 : decode c_Mo_write 13 = .ok (.ifCond .eq 8, 3) := by decide +kernel
theorem d_Mo_write_16 : decode c_Mo_write 16 = .ok (.iload_n 1, 1) := by decide +kernel
theorem d_Mo_write_17 : decode c_Mo_write 17 = .ok (.iload_n 2, 1) := by decide +kernel
theorem d_Mo_write_18 : decode c_Mo_write 18 = .ok (.if_icmp .ne 6, 3) := by decide +kernel
theorem d_Mo_write_21 : decode c_Mo_write 21 = .ok (.ldc 145, 2) := by decide +kernel
theorem d_Mo_write_23 : decode c_Mo_write 23 = .ok (.ireturn, 1) := by decide +kernel
theorem d_Mo_write_24 : decode c_Mo_write 24 = .ok (.iload_n 3, 1) := by decide +kernel
theorem d_Mo_write_25 : decode c_Mo_write 25 = .ok (.i2l, 1) := by decide +kernel
theorem d_Mo_write_26 : decode c_Mo_write 26 = .ok (.lconst 0, 1) := by decide +kernel
theorem d_Mo_write_27 : decode c_Mo_write 27 = .ok (.ldc2_w 202, 3) := by decide +kernel
theorem d_Mo_write_30 : decode c_Mo_write 30 = .ok (.invokestatic 63, 3) := by decide +kernel
theorem d_Mo_write_33 : decode c_Mo_write 33 = .ok (.ifCond .ne 6, 3) := by decide +kernel
theorem d_Mo_write_36 : decode c_Mo_write 36 = .ok (.ldc 144, 2) := by decide +kernel
theorem d_Mo_write_38 : decode c_Mo_write 38 = .ok (.ireturn, 1) := by decide +kernel
theorem d_Mo_write_39 : decode c_Mo_write 39 = .ok (.aload_n 0, 1) := by decide +kernel
theorem d_Mo_write_40 : decode c_Mo_write 40 = .ok (.getfield 111, 3) := by decide +kernel
theorem d_Mo_write_43 : decode c_Mo_write 43 = .ok (.bipush 20, 2) := by decide +kernel
theorem d_Mo_write_45 : decode c_Mo_write 45 = .ok (.if_icmp .ne 6, 3) := by decide +kernel
theorem d_Mo_write_48 : decode c_Mo_write 48 = .ok (.ldc 176, 2) := by decide +kernel
theorem d_Mo_write_50 : decode c_Mo_write 50 = .ok (.ireturn, 1) := by decide +kernel
theorem d_Mo_write_51 : decode c_Mo_write 51 = .ok (.aload_n 0, 1) := by decide +kernel
theorem d_Mo_write_52 : decode c_Mo_write 52 = .ok (.getfield 42, 3) := by decide +kernel
theorem d_Mo_write_55 : decode c_Mo_write 55 = .ok (.aload_n 0, 1) := by decide +kernel
theorem d_Mo_write_56 : decode c_Mo_write 56 = .ok (.getfield 111, 3) := by decide +kernel
theorem d_Mo_write_59 : decode c_Mo_write 59 = .ok (.iload_n 1, 1) := by decide +kernel
theorem d_Mo_write_60 : decode c_Mo_write 60 = .ok (.iastore, 1) := by decide +kernel
theorem d_Mo_write_61 : decode c_Mo_write 61 = .ok (.aload_n 0, 1) := by decide +kernel
theorem d_Mo_write_62 : decode c_Mo_write 62 = .ok (.getfield 45, 3) := by decide +kernel
theorem d_Mo_write_65 : decode c_Mo_write 65 = .ok (.aload_n 0, 1) := by decide +kernel
theorem d_Mo_write_66 : decode c_Mo_write 66 = .ok (.getfield 111, 3) := by decide +kernel
theorem d_Mo_write_69 : decode c_Mo_write 69 = .ok (.iload_n 2, 1) := by decide +kernel
theorem d_Mo_write_70 : decode c_Mo_write 70 = .ok (.iastore, 1) := by decide +kernel
theorem d_Mo_write_71 : decode c_Mo_write 71 = .ok (.aload_n 0, 1) := by decide +kernel
theorem d_Mo_write_72 : decode c_Mo_write 72 = .ok (.getfield 48, 3) := by decide +kernel
theorem d_Mo_write_75 : decode c_Mo_write 75 = .ok (.aload_n 0, 1) := by decide +kernel
theorem d_Mo_write_76 : decode c_Mo_write 76 = .ok (.getfield 111, 3) := by decide +kernel
theorem d_Mo_write_79 : decode c_Mo_write 79 = .ok (.iload_n 3, 1) := by decide +kernel
theorem d_Mo_write_80 : decode c_Mo_write 80 = .ok (.iastore, 1) := by decide +kernel
theorem d_Mo_write_81 : decode c_Mo_write 81 = .ok (.aload_n 0, 1) := by decide +kernel
theorem d_Mo_write_82 : decode c_Mo_write 82 = .ok (.dup, 1) := by decide +kernel
theorem d_Mo_write_83 : decode c_Mo_write 83 = .ok (.getfield 111, 3) := by decide +kernel
theorem d_Mo_write_86 : decode c_Mo_write 86 = .ok (.iconst 1, 1) := by decide +kernel
theorem d_Mo_write_87 : decode c_Mo_write 87 = .ok (.iadd, 1) := by decide +kernel
theorem d_Mo_write_88 : decode c_Mo_write 88 = .ok (.putfield 111, 3) := by decide +kernel
theorem d_Mo_write_91 : decode c_Mo_write 91 = .ok (.aload_n 0, 1) := by decide +kernel
theorem d_Mo_write_92 : decode c_Mo_write 92 = .ok (.getfield 111, 3) := by decide +kernel
theorem d_Mo_write_95 : decode c_Mo_write 95 = .ok (.ireturn, 1) := by decide +kernel
theorem d_Mo_tear_0 : decode c_Mo_tear 0 = .ok (.aload_n 0, 1) := by decide +kernel
theorem d_Mo_tear_1 : decode c_Mo_tear 1 = .ok (.getfield 100, 3) := by decide +kernel
theorem d_Mo_tear_4 : decode c_Mo_tear 4 = .ok (.aload_n 0, 1) := by decide +kernel
theorem d_Mo_tear_5 : decode c_Mo_tear 5 = .ok (.getfield 111, 3) := by decide +kernel
theorem d_Mo_tear_8 : decode c_Mo_tear 8 = .ok (.iadd, 1) := by decide +kernel
theorem d_Mo_tear_9 : decode c_Mo_tear 9 = .ok (.istore_n 1, 1) := by decide +kernel
theorem d_Mo_tear_10 : decode c_Mo_tear 10 = .ok (.aload_n 0, 1) := by decide +kernel
theorem d_Mo_tear_11 : decode c_Mo_tear 11 = .ok (.iconst 0, 1) := by decide +kernel
theorem d_Mo_tear_12 : decode c_Mo_tear 12 = .ok (.putfield 100, 3) := by decide +kernel
theorem d_Mo_tear_15 : decode c_Mo_tear 15 = .ok (.aload_n 0, 1) := by decide +kernel
theorem d_Mo_tear_16 : decode c_Mo_tear 16 = .ok (.iconst 0, 1) := by decide +kernel
theorem d_Mo_tear_17 : decode c_Mo_tear 17 = .ok (.putfield 111, 3) := by decide +kernel
theorem d_Mo_tear_20 : decode c_Mo_tear 20 = .ok (.iload_n 1, 1) := by decide +kernel
theorem d_Mo_tear_21 : decode c_Mo_tear 21 = .ok (.ireturn, 1) := by decide +kernel
theorem d_Mo_seed_0 : decode c_Mo_seed 0 = .ok (.iload_n 1, 1) := by decide +kernel
theorem d_Mo_seed_1 : decode c_Mo_seed 1 = .ok (.ifCond .ge 6, 3) := by decide +kernel
theorem d_Mo_seed_4 : decode c_Mo_seed 4 = .ok (.ldc 144, 2) := by decide +kernel
theorem d_Mo_seed_6 : decode c_Mo_seed 6 = .ok (.ireturn, 1) := by decide +kernel
theorem d_Mo_seed_7 : decode c_Mo_seed 7 = .ok (.aload_n 0, 1) := by decide +kernel
theorem d_Mo_seed_8 : decode c_Mo_seed 8 = .ok (.getfield 181, 3) := by decide +kernel
theorem d_Mo_seed_11 : decode c_Mo_seed 11 = .ok (.istore_n 2, 1) := by decide +kernel
theorem d_Mo_seed_12 : decode c_Mo_seed 12 = .ok (.aload_n 0, 1) := by decide +kernel
theorem d_Mo_seed_13 : decode c_Mo_seed 13 = .ok (.iload_n 1, 1) := by decide +kernel
theorem d_Mo_seed_14 : decode c_Mo_seed 14 = .ok (.putfield 181, 3) := by decide +kernel
theorem d_Mo_seed_17 : decode c_Mo_seed 17 = .ok (.iload_n 2, 1) := by decide +kernel
theorem d_Mo_seed_18 : decode c_Mo_seed 18 = .ok (.ireturn, 1) := by decide +kernel
theorem d_Mo_keep_0 : decode c_Mo_keep 0 = .ok (.iload_n 1, 1) := by decide +kernel
theorem d_Mo_keep_1 : decode c_Mo_keep 1 = .ok (.i2l, 1) := by decide +kernel
theorem d_Mo_keep_2 : decode c_Mo_keep 2 = .ok (.lconst 0, 1) := by decide +kernel
theorem d_Mo_keep_3 : decode c_Mo_keep 3 = .ok (.lconst 1, 1) := by decide +kernel
theorem d_Mo_keep_4 : decode c_Mo_keep 4 = .ok (.invokestatic 63, 3) := by decide +kernel
theorem d_Mo_keep_7 : decode c_Mo_keep 7 = .ok (.ifCond .ne 6, 3) := by decide +kernel
theorem d_Mo_keep_10 : decode c_Mo_keep 10 = .ok (.ldc 145, 2) := by decide +kernel
theorem d_Mo_keep_12 : decode c_Mo_keep 12 = .ok (.ireturn, 1) := by decide +kernel
theorem d_Mo_keep_13 : decode c_Mo_keep 13 = .ok (.aload_n 0, 1) := by decide +kernel
theorem d_Mo_keep_14 : decode c_Mo_keep 14 = .ok (.aload_n 0, 1) := by decide +kernel
theorem d_Mo_keep_15 : decode c_Mo_keep 15 = .ok (.getfield 23, 3) := by decide +kernel
theorem d_Mo_keep_18 : decode c_Mo_keep 18 = .ok (.aload_n 0, 1) := by decide +kernel
theorem d_Mo_keep_19 : decode c_Mo_keep 19 = .ok (.getfield 26, 3) := by decide +kernel
theorem d_Mo_keep_22 : decode c_Mo_keep 22 = .ok (.iload_n 1, 1) := by decide +kernel
theorem d_Mo_keep_23 : decode c_Mo_keep 23 = .ok (.invokevirtual 155, 3) := by decide +kernel
theorem d_Mo_keep_26 : decode c_Mo_keep 26 = .ok (.aload_n 0, 1) := by decide +kernel
theorem d_Mo_keep_27 : decode c_Mo_keep 27 = .ok (.getfield 29, 3) := by decide +kernel
theorem d_Mo_keep_30 : decode c_Mo_keep 30 = .ok (.iload_n 1, 1) := by decide +kernel
theorem d_Mo_keep_31 : decode c_Mo_keep 31 = .ok (.aload_n 0, 1) := by decide +kernel
theorem d_Mo_keep_32 : decode c_Mo_keep 32 = .ok (.getfield 181, 3) := by decide +kernel
theorem d_Mo_keep_35 : decode c_Mo_keep 35 = .ok (.iastore, 1) := by decide +kernel
theorem d_Mo_keep_36 : decode c_Mo_keep 36 = .ok (.aload_n 0, 1) := by decide +kernel
theorem d_Mo_keep_37 : decode c_Mo_keep 37 = .ok (.getfield 32, 3) := by decide +kernel
theorem d_Mo_keep_40 : decode c_Mo_keep 40 = .ok (.iload_n 1, 1) := by decide +kernel
theorem d_Mo_keep_41 : decode c_Mo_keep 41 = .ok (.iconst 1, 1) := by decide +kernel
theorem d_Mo_keep_42 : decode c_Mo_keep 42 = .ok (.bastore, 1) := by decide +kernel
theorem d_Mo_keep_43 : decode c_Mo_keep 43 = .ok (.aload_n 0, 1) := by decide +kernel
theorem d_Mo_keep_44 : decode c_Mo_keep 44 = .ok (.iconst 0, 1) := by decide +kernel
theorem d_Mo_keep_45 : decode c_Mo_keep 45 = .ok (.putfield 141, 3) := by decide +kernel
theorem d_Mo_keep_48 : decode c_Mo_keep 48 = .ok (.iconst 1, 1) := by decide +kernel
theorem d_Mo_keep_49 : decode c_Mo_keep 49 = .ok (.ireturn, 1) := by decide +kernel
theorem d_Mo_goBack_0 : decode c_Mo_goBack 0 = .ok (.iload_n 1, 1) := by decide +kernel
theorem d_Mo_goBack_1 : decode c_Mo_goBack 1 = .ok (.i2l, 1) := by decide +kernel
theorem d_Mo_goBack_2 : decode c_Mo_goBack 2 = .ok (.lconst 0, 1) := by decide +kernel
theorem d_Mo_goBack_3 : decode c_Mo_goBack 3 = .ok (.lconst 1, 1) := by decide +kernel
theorem d_Mo_goBack_4 : decode c_Mo_goBack 4 = .ok (.invokestatic 63, 3) := by decide +kernel
theorem d_Mo_goBack_7 : decode c_Mo_goBack 7 = .ok (.ifCond .ne 6, 3) := by decide +kernel
theorem d_Mo_goBack_10 : decode c_Mo_goBack 10 = .ok (.ldc 145, 2) := by decide +kernel
theorem d_Mo_goBack_12 : decode c_Mo_goBack 12 = .ok (.ireturn, 1) := by decide +kernel
theorem d_Mo_goBack_13 : decode c_Mo_goBack 13 = .ok (.aload_n 0, 1) := by decide +kernel
theorem d_Mo_goBack_14 : decode c_Mo_goBack 14 = .ok (.getfield 32, 3) := by decide +kernel
theorem d_Mo_goBack_17 : decode c_Mo_goBack 17 = .ok (.iload_n 1, 1) := by decide +kernel
theorem d_Mo_goBack_18 : decode c_Mo_goBack 18 = .ok (.baload, 1) := by decide +kernel
theorem d_Mo_goBack_19 : decode c_Mo_goBack 19 = .ok (.ifCond .ne 6, 3) := by decide +kernel
theorem d_Mo_goBack_22 : decode c_Mo_goBack 22 = .ok (.ldc 175, 2) := by decide +kernel
theorem d_Mo_goBack_24 : decode c_Mo_goBack 24 = .ok (.ireturn, 1) := by decide +kernel
theorem d_Mo_goBack_25 : decode c_Mo_goBack 25 = .ok (.aload_n 0, 1) := by decide +kernel
theorem d_Mo_goBack_26 : decode c_Mo_goBack 26 = .ok (.aload_n 0, 1) := by decide +kernel
theorem d_Mo_goBack_27 : decode c_Mo_goBack 27 = .ok (.getfield 23, 3) := by decide +kernel
theorem d_Mo_goBack_30 : decode c_Mo_goBack 30 = .ok (.aload_n 0, 1) := by decide +kernel
theorem d_Mo_goBack_31 : decode c_Mo_goBack 31 = .ok (.getfield 26, 3) := by decide +kernel
theorem d_Mo_goBack_34 : decode c_Mo_goBack 34 = .ok (.iload_n 1, 1) := by decide +kernel
theorem d_Mo_goBack_35 : decode c_Mo_goBack 35 = .ok (.invokevirtual 199, 3) := by decide +kernel
theorem d_Mo_goBack_38 : decode c_Mo_goBack 38 = .ok (.aload_n 0, 1) := by decide +kernel
theorem d_Mo_goBack_39 : decode c_Mo_goBack 39 = .ok (.aload_n 0, 1) := by decide +kernel
theorem d_Mo_goBack_40 : decode c_Mo_goBack 40 = .ok (.getfield 29, 3) := by decide +kernel
theorem d_Mo_goBack_43 : decode c_Mo_goBack 43 = .ok (.iload_n 1, 1) := by decide +kernel
theorem d_Mo_goBack_44 : decode c_Mo_goBack 44 = .ok (.iaload, 1) := by decide +kernel
theorem d_Mo_goBack_45 : decode c_Mo_goBack 45 = .ok (.putfield 181, 3) := by decide +kernel
theorem d_Mo_goBack_48 : decode c_Mo_goBack 48 = .ok (.aload_n 0, 1) := by decide +kernel
theorem d_Mo_goBack_49 : decode c_Mo_goBack 49 = .ok (.iconst 0, 1) := by decide +kernel
theorem d_Mo_goBack_50 : decode c_Mo_goBack 50 = .ok (.putfield 141, 3) := by decide +kernel
theorem d_Mo_goBack_53 : decode c_Mo_goBack 53 = .ok (.iconst 1, 1) := by decide +kernel
theorem d_Mo_goBack_54 : decode c_Mo_goBack 54 = .ok (.ireturn, 1) := by decide +kernel
