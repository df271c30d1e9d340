theorem d_Bk_firstWrong_27 : decode c_Bk_firstWrong 27 = .ok (.iconst (-1), 1) := by decide +kernel
theorem d_Bk_firstWrong_28 : decode c_Bk_firstWrong 28 = .ok (.ireturn, 1) := by decide +kernel
theorem d_Bk_isRight_0 : decode c_Bk_isRight 0 = .ok (.aload_n 1, 1) := by decide +kernel
theorem d_Bk_isRight_1 : decode c_Bk_isRight 1 = .ok (.aload_n 0, 1) := by decide +kernel
theorem d_Bk_isRight_2 : decode c_Bk_isRight 2 = .ok (.getfield 9, 3) := by decide +kernel
theorem d_Bk_isRight_5 : decode c_Bk_isRight 5 = .ok (.iload_n 2, 1) := by decide +kernel
theorem d_Bk_isRight_6 : decode c_Bk_isRight 6 = .ok (.iaload, 1) := by decide +kernel
theorem d_Bk_isRight_7 : decode c_Bk_isRight 7 = .ok (.aload_n 0, 1) := by decide +kernel
theorem d_Bk_isRight_8 : decode c_Bk_isRight 8 = .ok (.getfield 15, 3) := by decide +kernel
theorem d_Bk_isRight_11 : decode c_Bk_isRight 11 = .ok (.iload_n 2, 1) := by decide +kernel
theorem d_Bk_isRight_12 : decode c_Bk_isRight 12 = .ok (.iaload, 1) := by decide +kernel
theorem d_Bk_isRight_13 : decode c_Bk_isRight 13 = .ok (.invokevirtual 29, 3) := by decide +kernel
theorem d_Bk_isRight_16 : decode c_Bk_isRight 16 = .ok (.ifCond .eq 32, 3) := by decide +kernel
theorem d_Bk_isRight_19 : decode c_Bk_isRight 19 = .ok (.aload_n 1, 1) := by decide +kernel
theorem d_Bk_isRight_20 : decode c_Bk_isRight 20 = .ok (.aload_n 0, 1) := by decide +kernel
theorem d_Bk_isRight_21 : decode c_Bk_isRight 21 = .ok (.getfield 9, 3) := by decide +kernel
theorem d_Bk_isRight_24 : decode c_Bk_isRight 24 = .ok (.iload_n 2, 1) := by decide +kernel
theorem d_Bk_isRight_25 : decode c_Bk_isRight 25 = .ok (.iaload, 1) := by decide +kernel
theorem d_Bk_isRight_26 : decode c_Bk_isRight 26 = .ok (.aload_n 0, 1) := by decide +kernel
theorem d_Bk_isRight_27 : decode c_Bk_isRight 27 = .ok (.getfield 15, 3) := by decide +kernel
theorem d_Bk_isRight_30 : decode c_Bk_isRight 30 = .ok (.iload_n 2, 1) := by decide +kernel
theorem d_Bk_isRight_31 : decode c_Bk_isRight 31 = .ok (.iaload, 1) := by decide +kernel
theorem d_Bk_isRight_32 : decode c_Bk_isRight 32 = .ok (.invokevirtual 35, 3) := by decide +kernel
theorem d_Bk_isRight_35 : decode c_Bk_isRight 35 = .ok (.aload_n 0, 1) := by decide +kernel
theorem d_Bk_isRight_36 : decode c_Bk_isRight 36 = .ok (.getfield 18, 3) := by decide +kernel
theorem d_Bk_isRight_39 : decode c_Bk_isRight 39 = .ok (.iload_n 2, 1) := by decide +kernel
theorem d_Bk_isRight_40 : decode c_Bk_isRight 40 = .ok (.iaload, 1) := by decide +kernel
theorem d_Bk_isRight_41 : decode c_Bk_isRight 41 = .ok (.if_icmp .ne 7, 3) := by decide +kernel
theorem d_Bk_isRight_44 : decode c_Bk_isRight 44 = .ok (.iconst 1, 1) := by decide +kernel
theorem d_Bk_isRight_45 : decode c_Bk_isRight 45 = .ok (.goto 4, 3) := by decide +kernel
theorem d_Bk_isRight_48 : decode c_Bk_isRight 48 = .ok (.iconst 0, 1) := by decide +kernel
theorem d_Bk_isRight_49 : decode c_Bk_isRight 49 = .ok (.ireturn, 1) := by decide +kernel
theorem d_Co_init_0 : decode c_Co_init 0 = .ok (.aload_n 0, 1) := by decide +kernel
theorem d_Co_init_1 : decode c_Co_init 1 = .ok (.invokespecial 3, 3) := by decide +kernel
theorem d_Co_init_4 : decode c_Co_init 4 = .ok (.aload_n 0, 1) := by decide +kernel
theorem d_Co_init_5 : decode c_Co_init 5 = .ok (.bipush 64, 2) := by decide +kernel
theorem d_Co_init_7 : decode c_Co_init 7 = .ok (.newarray .long, 2) := by decide +kernel
theorem d_Co_init_9 : decode c_Co_init 9 = .ok (.putfield 9, 3) := by decide +kernel
theorem d_Co_init_12 : decode c_Co_init 12 = .ok (.return_, 1) := by decide +kernel
theorem d_Co_read_0 : decode c_Co_read 0 = .ok (.aload_n 0, 1) := by decide +kernel
theorem d_Co_read_1 : decode c_Co_read 1 = .ok (.lconst 1, 1) := by decide +kernel
theorem d_Co_read_2 : decode c_Co_read 2 = .ok (.aload_n 1, 1) := by decide +kernel
theorem d_Co_read_3 : decode c_Co_read 3 = .ok (.getfield 15, 3) := by decide +kernel
theorem d_Co_read_6 : decode c_Co_read 6 = .ok (.lshl, 1) := by decide +kernel
theorem d_Co_read_7 : decode c_Co_read 7 = .ok (.lconst 1, 1) := by decide +kernel
theorem d_Co_read_8 : decode c_Co_read 8 = .ok (.lsub, 1) := by decide +kernel
theorem d_Co_read_9 : decode c_Co_read 9 = .ok (.putfield 21, 3) := by decide +kernel
theorem d_Co_read_12 : decode c_Co_read 12 = .ok (.iconst 0, 1) := by decide +kernel
theorem d_Co_read_13 : decode c_Co_read 13 = .ok (.istore_n 2, 1) := by decide +kernel
theorem d_Co_read_14 : decode c_Co_read 14 = .ok (.iload_n 2, 1) := by decide +kernel
theorem d_Co_read_15 : decode c_Co_read 15 = .ok (.bipush 64, 2) := by decide +kernel
theorem d_Co_read_17 : decode c_Co_read 17 = .ok (.if_icmp .ge 53, 3) := by decide +kernel
theorem d_Co_read_20 : decode c_Co_read 20 = .ok (.aload_n 0, 1) := by decide +kernel
theorem d_Co_read_21 : decode c_Co_read 21 = .ok (.getfield 9, 3) := by decide +kernel
theorem d_Co_read_24 : decode c_Co_read 24 = .ok (.iload_n 2, 1) := by decide +kernel
theorem d_Co_read_25 : decode c_Co_read 25 = .ok (.lconst 0, 1) := by decide +kernel
theorem d_Co_read_26 : decode c_Co_read 26 = .ok (.lastore, 1) := by decide +kernel
theorem d_Co_read_27 : decode c_Co_read 27 = .ok (.iconst 0, 1) := by decide +kernel
theorem d_Co_read_28 : decode c_Co_read 28 = .ok (.istore_n 3, 1) := by decide +kernel
theorem d_Co_read_29 : decode c_Co_read 29 = .ok (.iload_n 3, 1) := by decide +kernel
theorem d_Co_read_30 : decode c_Co_read 30 = .ok (.aload_n 1, 1) := by decide +kernel
theorem d_Co_read_31 : decode c_Co_read 31 = .ok (.getfield 15, 3) := by decide +kernel
theorem d_Co_read_34 : decode c_Co_read 34 = .ok (.if_icmp .ge 30, 3) := by decide +kernel
theorem d_Co_read_37 : decode c_Co_read 37 = .ok (.aload_n 0, 1) := by decide +kernel
theorem d_Co_read_38 : decode c_Co_read 38 = .ok (.getfield 9, 3) := by decide +kernel
theorem d_Co_read_41 : decode c_Co_read 41 = .ok (.iload_n 2, 1) := by decide +kernel
theorem d_Co_read_42 : decode c_Co_read 42 = .ok (.dup2, 1) := by decide +kernel
theorem d_Co_read_43 : decode c_Co_read 43 = .ok (.laload, 1) := by decide +kernel
theorem d_Co_read_44 : decode c_Co_read 44 = .ok (.aload_n 1, 1) := by decide +kernel
theorem d_Co_read_45 : decode c_Co_read 45 = .ok (.getfield 25, 3) := by decide +kernel
theorem d_Co_read_48 : decode c_Co_read 48 = .ok (.iload_n 3, 1) := by decide +kernel
theorem d_Co_read_49 : decode c_Co_read 49 = .ok (.laload, 1) := by decide +kernel
theorem d_Co_read_50 : decode c_Co_read 50 = .ok (.iload_n 2, 1) := by decide +kernel
theorem d_Co_read_51 : decode c_Co_read 51 = .ok (.lushr, 1) := by decide +kernel
theorem d_Co_read_52 : decode c_Co_read 52 = .ok (.lconst 1, 1) := by decide +kernel
theorem d_Co_read_53 : decode c_Co_read 53 = .ok (.land, 1) := by decide +kernel
theorem d_Co_read_54 : decode c_Co_read 54 = .ok (.iload_n 3, 1) := by decide +kernel
theorem d_Co_read_55 : decode c_Co_read 55 = .ok (.lshl, 1) := by decide +kernel
theorem d_Co_read_56 : decode c_Co_read 56 = .ok (.lor, 1) := by decide +kernel
theorem d_Co_read_57 : decode c_Co_read 57 = .ok (.lastore, 1) := by decide +kernel
theorem d_Co_read_58 : decode c_Co_read 58 = .ok (.iinc 3 1, 3) := by decide +kernel
theorem d_Co_read_61 : decode c_Co_read 61 = .ok (.goto (-32), 3) := by decide +kernel
theorem d_Co_read_64 : decode c_Co_read 64 = .ok (.iinc 2 1, 3) := by decide +kernel
theorem d_Co_read_67 : decode c_Co_read 67 = .ok (.goto (-53), 3) := by decide +kernel
theorem d_Co_read_70 : decode c_Co_read 70 = .ok (.return_, 1) := by decide +kernel
theorem d_Co_isDead_0 : decode c_Co_isDead 0 = .ok (.aload_n 0, 1) := by decide +kernel
theorem d_Co_isDead_1 : decode c_Co_isDead 1 = .ok (.getfield 9, 3) := by decide +kernel
theorem d_Co_isDead_4 : decode c_Co_isDead 4 = .ok (.iload_n 1, 1) := by decide +kernel
theorem d_Co_isDead_5 : decode c_Co_isDead 5 = .ok (.laload, 1) := by decide +kernel
theorem d_Co_isDead_6 : decode c_Co_isDead 6 = .ok (.lconst 0, 1) := by decide +kernel
theorem d_Co_isDead_7 : decode c_Co_isDead 7 = .ok (.lcmp, 1) := by decide +kernel
theorem d_Co_isDead_8 : decode c_Co_isDead 8 = .ok (.ifCond .eq 17, 3) := by decide +kernel
theorem d_Co_isDead_11 : decode c_Co_isDead 11 = .ok (.aload_n 0, 1) := by decide +kernel
theorem d_Co_isDead_12 : decode c_Co_isDead 12 = .ok (.getfield 9, 3) := by decide +kernel
theorem d_Co_isDead_15 : decode c_Co_isDead 15 = .ok (.iload_n 1, 1) := by decide +kernel
theorem d_Co_isDead_16 : decode c_Co_isDead 16 = .ok (.laload, 1) := by decide +kernel
theorem d_Co_isDead_17 : decode c_Co_isDead 17 = .ok (.aload_n 0, 1) := by decide +kernel
theorem d_Co_isDead_18 : decode c_Co_isDead 18 = .ok (.getfield 21, 3) := by decide +kernel
theorem d_Co_isDead_21 : decode c_Co_isDead 21 = .ok (.lcmp, 1) := by decide +kernel
theorem d_Co_isDead_22 : decode c_Co_isDead 22 = .ok (.ifCond .ne 7, 3) := by decide +kernel
theorem d_Co_isDead_25 : decode c_Co_isDead 25 = .ok (.iconst 1, 1) := by decide +kernel
theorem d_Co_isDead_26 : decode c_Co_isDead 26 = .ok (.goto 4, 3) := by decide +kernel
theorem d_Co_isDead_29 : decode c_Co_isDead 29 = .ok (.iconst 0, 1) := by decide +kernel
theorem d_Co_isDead_30 : decode c_Co_isDead 30 = .ok (.ireturn, 1) := by decide +kernel
theorem d_Co_countDead_0 : decode c_Co_countDead 0 = .ok (.aload_n 0, 1) := by decide +kernel
theorem d_Co_countDead_1 : decode c_Co_countDead 1 = .ok (.aload_n 1, 1) := by decide +kernel
theorem d_Co_countDead_2 : decode c_Co_countDead 2 = .ok (.invokevirtual 28, 3) := by decide +kernel
theorem d_Co_countDead_5 : decode c_Co_countDead 5 = .ok (.iconst 0, 1) := by decide +kernel
theorem d_Co_countDead_6 : decode c_Co_countDead 6 = .ok (.istore_n 2, 1) := by decide +kernel
theorem d_Co_countDead_7 : decode c_Co_countDead 7 = .ok (.iconst 0, 1) := by decide +kernel
theorem d_Co_countDead_8 : decode c_Co_countDead 8 = .ok (.istore_n 3, 1) := by decide +kernel
theorem d_Co_countDead_9 : decode c_Co_countDead 9 = .ok (.iload_n 3, 1) := by decide +kernel
theorem d_Co_countDead_10 : decode c_Co_countDead 10 = .ok (.bipush 64, 2) := by decide +kernel
theorem d_Co_countDead_12 : decode c_Co_countDead 12 = .ok (.if_icmp .ge 20, 3) := by decide +kernel
theorem d_Co_countDead_15 : decode c_Co_countDead 15 = .ok (.aload_n 0, 1) := by decide +kernel
theorem d_Co_countDead_16 : decode c_Co_countDead 16 = .ok (.iload_n 3, 1) := by decide +kernel
theorem d_Co_countDead_17 : decode c_Co_countDead 17 = .ok (.invokevirtual 32, 3) := by decide +kernel
theorem d_Co_countDead_20 : decode c_Co_countDead 20 = .ok (.ifCond .eq 6, 3) := by decide +kernel
theorem d_Co_countDead_23 : decode c_Co_countDead 23 = .ok (.iinc 2 1, 3) := by decide +kernel
theorem d_Co_countDead_26 : decode c_Co_countDead 26 = .ok (.iinc 3 1, 3) := by decide +kernel
theorem d_Co_countDead_29 : decode c_Co_countDead 29 = .ok (.goto (-20), 3) := by decide +kernel
theorem d_Co_countDead_32 : decode c_Co_countDead 32 = .ok (.iload_n 2, 1) := by decide +kernel
theorem d_Co_countDead_33 : decode c_Co_countDead 33 = .ok (.ireturn, 1) := by decide +kernel
theorem d_Co_firstPair_0 : decode c_Co_firstPair 0 = .ok (.aload_n 0, 1) := by decide +kernel
theorem d_Co_firstPair_1 : decode c_Co_firstPair 1 = .ok (.aload_n 1, 1) := by decide +kernel
theorem d_Co_firstPair_2 : decode c_Co_firstPair 2 = .ok (.invokevirtual 28, 3) := by decide +kernel
theorem d_Co_firstPair_5 : decode c_Co_firstPair 5 = .ok (.iconst 0, 1) := by decide +kernel
theorem d_Co_firstPair_6 : decode c_Co_firstPair 6 = .ok (.istore_n 2, 1) := by decide +kernel
theorem d_Co_firstPair_7 : decode c_Co_firstPair 7 = .ok (.iload_n 2, 1) := by decide +kernel
theorem d_Co_firstPair_8 : decode c_Co_firstPair 8 = .ok (.bipush 64, 2) := by decide +kernel
theorem d_Co_firstPair_10 : decode c_Co_firstPair 10 = .ok (.if_icmp .ge 41, 3) := by decide +kernel
theorem d_Co_firstPair_13 : decode c_Co_firstPair 13 = .ok (.iload_n 2, 1) := by decide +kernel
theorem d_Co_firstPair_14 : decode c_Co_firstPair 14 = .ok (.iconst 1, 1) := by decide +kernel
theorem d_Co_firstPair_15 : decode c_Co_firstPair 15 = .ok (.iadd, 1) := by decide +kernel
theorem d_Co_firstPair_16 : decode c_Co_firstPair 16 = .ok (.istore_n 3, 1) := by decide +kernel
theorem d_Co_firstPair_17 : decode c_Co_firstPair 17 = .ok (.iload_n 3, 1) := by decide +kernel
theorem d_Co_firstPair_18 : decode c_Co_firstPair 18 = .ok (.bipush 64, 2) := by decide +kernel
theorem d_Co_firstPair_20 : decode c_Co_firstPair 20 = .ok (.if_icmp .ge 25, 3) := by decide +kernel
theorem d_Co_firstPair_23 : decode c_Co_firstPair 23 = .ok (.aload_n 0, 1) := by decide +kernel
theorem d_Co_firstPair_24 : decode c_Co_firstPair 24 = .ok (.iload_n 2, 1) := by decide +kernel
theorem d_Co_firstPair_25 : decode c_Co_firstPair 25 = .ok (.iload_n 3, 1) := by decide +kernel
theorem d_Co_firstPair_26 : decode c_Co_firstPair 26 = .ok (.invokevirtual 36, 3) := by decide +kernel
theorem d_Co_firstPair_29 : decode c_Co_firstPair 29 = .ok (.ifCond .eq 10, 3) := by decide +kernel
theorem d_Co_firstPair_32 : decode c_Co_firstPair 32 = .ok (.bipush 64, 2) := by decide +kernel
theorem d_Co_firstPair_34 : decode c_Co_firstPair 34 = .ok (.iload_n 2, 1) := by decide +kernel
theorem d_Co_firstPair_35 : decode c_Co_firstPair 35 = .ok (.imul, 1) := by decide +kernel
theorem d_Co_firstPair_36 : decode c_Co_firstPair 36 = .ok (.iload_n 3, 1) := by decide +kernel
theorem d_Co_firstPair_37 : decode c_Co_firstPair 37 = .ok (.iadd, 1) := by decide +kernel
theorem d_Co_firstPair_38 : decode c_Co_firstPair 38 = .ok (.ireturn, 1) := by decide +kernel
theorem d_Co_firstPair_39 : decode c_Co_firstPair 39 = .ok (.iinc 3 1, 3) := by decide +kernel
theorem d_Co_firstPair_42 : decode c_Co_firstPair 42 = .ok (.goto (-25), 3) := by decide +kernel
theorem d_Co_firstPair_45 : decode c_Co_firstPair 45 = .ok (.iinc 2 1, 3) := by decide +kernel
theorem d_Co_firstPair_48 : decode c_Co_firstPair 48 = .ok (.goto (-41), 3) := by decide +kernel
theorem d_Co_firstPair_51 : decode c_Co_firstPair 51 = .ok (.iconst (-1), 1) := by decide +kernel
theorem d_Co_firstPair_52 : decode c_Co_firstPair 52 = .ok (.ireturn, 1) := by decide +kernel
theorem d_Co_goTogether_0 : decode c_Co_goTogether 0 = .ok (.aload_n 0, 1) := by decide +kernel
theorem d_Co_goTogether_1 : decode c_Co_goTogether 1 = .ok (.iload_n 1, 1) := by decide +kernel
theorem d_Co_goTogether_2 : decode c_Co_goTogether 2 = .ok (.invokevirtual 32, 3) := by decide +kernel
theorem d_Co_goTogether_5 : decode c_Co_goTogether 5 = .ok (.ifCond .ne 44, 3) := by decide +kernel
theorem d_Co_goTogether_8 : decode c_Co_goTogether 8 = .ok (.aload_n 0, 1) := by decide +kernel
theorem d_Co_goTogether_9 : decode c_Co_goTogether 9 = .ok (.getfield 9, 3) := by decide +kernel
theorem d_Co_goTogether_12 : decode c_Co_goTogether 12 = .ok (.iload_n 1, 1) := by decide +kernel
theorem d_Co_goTogether_13 : decode c_Co_goTogether 13 = .ok (.laload, 1) := by decide +kernel
theorem d_Co_goTogether_14 : decode c_Co_goTogether 14 = .ok (.aload_n 0, 1) := by decide +kernel
theorem d_Co_goTogether_15 : decode c_Co_goTogether 15 = .ok (.getfield 9, 3) := by decide +kernel
theorem d_Co_goTogether_18 : decode c_Co_goTogether 18 = .ok (.iload_n 2, 1) := by decide +kernel
theorem d_Co_goTogether_19 : decode c_Co_goTogether 19 = .ok (.laload, 1) := by decide +kernel
theorem d_Co_goTogether_20 : decode c_Co_goTogether 20 = .ok (.lcmp, 1) := by decide +kernel
theorem d_Co_goTogether_21 : decode c_Co_goTogether 21 = .ok (.ifCond .eq 24, 3) := by decide +kernel
theorem d_Co_goTogether_24 : decode c_Co_goTogether 24 = .ok (.aload_n 0, 1) := by decide +kernel
theorem d_Co_goTogether_25 : decode c_Co_goTogether 25 = .ok (.getfield 9, 3) := by decide +kernel
theorem d_Co_goTogether_28 : decode c_Co_goTogether 28 = .ok (.iload_n 1, 1) := by decide +kernel
theorem d_Co_goTogether_29 : decode c_Co_goTogether 29 = .ok (.laload, 1) := by decide +kernel
theorem d_Co_goTogether_30 : decode c_Co_goTogether 30 = .ok (.aload_n 0, 1) := by decide +kernel
theorem d_Co_goTogether_31 : decode c_Co_goTogether 31 = .ok (.getfield 21, 3) := by decide +kernel
theorem d_Co_goTogether_34 : decode c_Co_goTogether 34 = .ok (.aload_n 0, 1) := by decide +kernel
theorem d_Co_goTogether_35 : decode c_Co_goTogether 35 = .ok (.getfield 9, 3) := by decide +kernel
theorem d_Co_goTogether_38 : decode c_Co_goTogether 38 = .ok (.iload_n 2, 1) := by decide +kernel
theorem d_Co_goTogether_39 : decode c_Co_goTogether 39 = .ok (.laload, 1) := by decide +kernel
theorem d_Co_goTogether_40 : decode c_Co_goTogether 40 = .ok (.lxor, 1) := by decide +kernel
theorem d_Co_goTogether_41 : decode c_Co_goTogether 41 = .ok (.lcmp, 1) := by decide +kernel
theorem d_Co_goTogether_42 : decode c_Co_goTogether 42 = .ok (.ifCond .ne 7, 3) := by decide +kernel
theorem d_Co_goTogether_45 : decode c_Co_goTogether 45 = .ok (.iconst 1, 1) := by decide +kernel
theorem d_Co_goTogether_46 : decode c_Co_goTogether 46 = .ok (.goto 4, 3) := by decide +kernel
theorem d_Co_goTogether_49 : decode c_Co_goTogether 49 = .ok (.iconst 0, 1) := by decide +kernel
theorem d_Co_goTogether_50 : decode c_Co_goTogether 50 = .ok (.ireturn, 1) := by decide +kernel
theorem d_Co_mostOf_0 : decode c_Co_mostOf 0 = .ok (.aload_n 0, 1) := by decide +kernel
theorem d_Co_mostOf_1 : decode c_Co_mostOf 1 = .ok (.aload_n 1, 1) := by decide +kernel
theorem d_Co_mostOf_2 : decode c_Co_mostOf 2 = .ok (.invokevirtual 28, 3) := by decide +kernel
theorem d_Co_mostOf_5 : decode c_Co_mostOf 5 = .ok (.lload_n 2, 1) := by decide +kernel
theorem d_Co_mostOf_6 : decode c_Co_mostOf 6 = .ok (.invokestatic 40, 3) := by decide +kernel
theorem d_Co_mostOf_9 : decode c_Co_mostOf 9 = .ok (.istore 4, 2) := by decide +kernel
theorem d_Co_mostOf_11 : decode c_Co_mostOf 11 = .ok (.lconst 0, 1) := by decide +kernel
theorem d_Co_mostOf_12 : decode c_Co_mostOf 12 = .ok (.lstore 5, 2) := by decide +kernel
theorem d_Co_mostOf_14 : decode c_Co_mostOf 14 = .ok (.iconst 0, 1) := by decide +kernel
theorem d_Co_mostOf_15 : decode c_Co_mostOf 15 = .ok (.istore 7, 2) := by decide +kernel
theorem d_Co_mostOf_17 : decode c_Co_mostOf 17 = .ok (.iload 7, 2) := by decide +kernel
theorem d_Co_mostOf_19 : decode c_Co_mostOf 19 = .ok (.bipush 64, 2) := by decide +kernel
theorem d_Co_mostOf_21 : decode c_Co_mostOf 21 = .ok (.if_icmp .ge 37, 3) := by decide +kernel
theorem d_Co_mostOf_24 : decode c_Co_mostOf 24 = .ok (.iconst 2, 1) := by decide +kernel
theorem d_Co_mostOf_25 : decode c_Co_mostOf 25 = .ok (.aload_n 0, 1) := by decide +kernel
theorem d_Co_mostOf_26 : decode c_Co_mostOf 26 = .ok (.getfield 9, 3) := by decide +kernel
theorem d_Co_mostOf_29 : decode c_Co_mostOf 29 = .ok (.iload 7, 2) := by decide +kernel
theorem d_Co_mostOf_31 : decode c_Co_mostOf 31 = .ok (.laload, 1) := by decide +kernel
theorem d_Co_mostOf_32 : decode c_Co_mostOf 32 = .ok (.lload_n 2, 1) := by decide +kernel
theorem d_Co_mostOf_33 : decode c_Co_mostOf 33 = .ok (.land, 1) := by decide +kernel
theorem d_Co_mostOf_34 : decode c_Co_mostOf 34 = .ok (.invokestatic 40, 3) := by decide +kernel
theorem d_Co_mostOf_37 : decode c_Co_mostOf 37 = .ok (.imul, 1) := by decide +kernel
theorem d_Co_mostOf_38 : decode c_Co_mostOf 38 = .ok (.iload 4, 2) := by decide +kernel
theorem d_Co_mostOf_40 : decode c_Co_mostOf 40 = .ok (.if_icmp .le 12, 3) := by decide +kernel
theorem d_Co_mostOf_43 : decode c_Co_mostOf 43 = .ok (.lload 5, 2) := by decide +kernel
theorem d_Co_mostOf_45 : decode c_Co_mostOf 45 = .ok (.lconst 1, 1) := by decide +kernel
theorem d_Co_mostOf_46 : decode c_Co_mostOf 46 = .ok (.iload 7, 2) := by decide +kernel
theorem d_Co_mostOf_48 : decode c_Co_mostOf 48 = .ok (.lshl, 1) := by decide +kernel
theorem d_Co_mostOf_49 : decode c_Co_mostOf 49 = .ok (.lor, 1) := by decide +kernel
theorem d_Co_mostOf_50 : decode c_Co_mostOf 50 = .ok (.lstore 5, 2) := by decide +kernel
theorem d_Co_mostOf_52 : decode c_Co_mostOf 52 = .ok (.iinc 7 1, 3) := by decide +kernel
theorem d_Co_mostOf_55 : decode c_Co_mostOf 55 = .ok (.goto (-38), 3) := by decide +kernel
theorem d_Co_mostOf_58 : decode c_Co_mostOf 58 = .ok (.lload 5, 2) := by decide +kernel
theorem d_Co_mostOf_60 : decode c_Co_mostOf 60 = .ok (.lreturn, 1) := by decide +kernel
theorem d_Dr_init_0 : decode c_Dr_init 0 = .ok (.aload_n 0, 1) := by decide +kernel
theorem d_Dr_init_1 : decode c_Dr_init 1 = .ok (.invokespecial 1, 3) := by decide +kernel
theorem d_Dr_init_4 : decode c_Dr_init 4 = .ok (.return_, 1) := by decide +kernel
theorem d_Dr_next_0 : decode c_Dr_next 0 = .ok (.aload_n 0, 1) := by decide +kernel
theorem d_Dr_next_1 : decode c_Dr_next 1 = .ok (.aload_n 0, 1) := by decide +kernel
theorem d_Dr_next_2 : decode c_Dr_next 2 = .ok (.getfield 7, 3) := by decide +kernel
theorem d_Dr_next_5 : decode c_Dr_next 5 = .ok (.i2l, 1) := by decide +kernel
theorem d_Dr_next_6 : decode c_Dr_next 6 = .ok (.ldc2_w 13, 3) := by decide +kernel
theorem d_Dr_next_9 : decode c_Dr_next 9 = .ok (.lmul, 1) := by decide +kernel
theorem d_Dr_next_10 : decode c_Dr_next 10 = .ok (.ldc2_w 15, 3) := by decide +kernel
theorem d_Dr_next_13 : decode c_Dr_next 13 = .ok (.ladd, 1) := by decide +kernel
theorem d_Dr_next_14 : decode c_Dr_next 14 = .ok (.ldc2_w 17, 3) := by decide +kernel
theorem d_Dr_next_17 : decode c_Dr_next 17 = .ok (.land, 1) := by decide +kernel
theorem d_Dr_next_18 : decode c_Dr_next 18 = .ok (.l2i, 1) := by decide +kernel
theorem d_Dr_next_19 : decode c_Dr_next 19 = .ok (.putfield 7, 3) := by decide +kernel
theorem d_Dr_next_22 : decode c_Dr_next 22 = .ok (.aload_n 0, 1) := by decide +kernel
theorem d_Dr_next_23 : decode c_Dr_next 23 = .ok (.getfield 7, 3) := by decide +kernel
theorem d_Dr_next_26 : decode c_Dr_next 26 = .ok (.ldc 19, 2) := by decide +kernel
theorem d_Dr_next_28 : decode c_Dr_next 28 = .ok (.idiv, 1) := by decide +kernel
theorem d_Dr_next_29 : decode c_Dr_next 29 = .ok (.iload_n 1, 1) := by decide +kernel
theorem d_Dr_next_30 : decode c_Dr_next 30 = .ok (.iconst 1, 1) := by decide +kernel
theorem d_Dr_next_31 : decode c_Dr_next 31 = .ok (.invokestatic 20, 3) := by decide +kernel
theorem d_Dr_next_34 : decode c_Dr_next 34 = .ok (.irem, 1) := by decide +kernel
theorem d_Dr_next_35 : decode c_Dr_next 35 = .ok (.ireturn, 1) := by decide +kernel
theorem d_Gr_init_0 : decode c_Gr_init 0 = .ok (.aload_n 0, 1) := by decide +kernel
theorem d_Gr_init_1 : decode c_Gr_init 1 = .ok (.invokespecial 3, 3) := by decide +kernel
theorem d_Gr_init_4 : decode c_Gr_init 4 = .ok (.aload_n 0, 1) := by decide +kernel
theorem d_Gr_init_5 : decode c_Gr_init 5 = .ok (.bipush 40, 2) := by decide +kernel
theorem d_Gr_init_7 : decode c_Gr_init 7 = .ok (.newarray .long, 2) := by decide +kernel
theorem d_Gr_init_9 : decode c_Gr_init 9 = .ok (.putfield 9, 3) := by decide +kernel
theorem d_Gr_init_12 : decode c_Gr_init 12 = .ok (.aload_n 0, 1) := by decide +kernel
theorem d_Gr_init_13 : decode c_Gr_init 13 = .ok (.bipush 40, 2) := by decide +kernel
theorem d_Gr_init_15 : decode c_Gr_init 15 = .ok (.newarray .long, 2) := by decide +kernel
theorem d_Gr_init_17 : decode c_Gr_init 17 = .ok (.putfield 15, 3) := by decide +kernel
theorem d_Gr_init_20 : decode c_Gr_init 20 = .ok (.return_, 1) := by decide +kernel
theorem d_Gr_has_0 : decode c_Gr_has 0 = .ok (.iload_n 1, 1) := by decide +kernel
theorem d_Gr_has_1 : decode c_Gr_has 1 = .ok (.ifCond .lt 15, 3) := by decide +kernel
theorem d_Gr_has_4 : decode c_Gr_has 4 = .ok (.iload_n 1, 1) := by decide +kernel
theorem d_Gr_has_5 : decode c_Gr_has 5 = .ok (.aload_n 0, 1) := by decide +kernel
theorem d_Gr_has_6 : decode c_Gr_has 6 = .ok (.getfield 18, 3) := by decide +kernel
theorem d_Gr_has_9 : decode c_Gr_has 9 = .ok (.if_icmp .ge 7, 3) := by decide +kernel
theorem d_Gr_has_12 : decode c_Gr_has 12 = .ok (.iconst 1, 1) := by decide +kernel
theorem d_Gr_has_13 : decode c_Gr_has 13 = .ok (.goto 4, 3) := by decide +kernel
theorem d_Gr_has_16 : decode c_Gr_has 16 = .ok (.iconst 0, 1) := by decide +kernel
theorem d_Gr_has_17 : decode c_Gr_has 17 = .ok (.ireturn, 1) := by decide +kernel
theorem d_Gr_join_0 : decode c_Gr_join 0 = .ok (.aload_n 0, 1) := by decide +kernel
theorem d_Gr_join_1 : decode c_Gr_join 1 = .ok (.aload_n 1, 1) := by decide +kernel
theorem d_Gr_join_2 : decode c_Gr_join 2 = .ok (.iload_n 2, 1) := by decide +kernel
theorem d_Gr_join_3 : decode c_Gr_join 3 = .ok (.invokevirtual 22, 3) := by decide +kernel
theorem d_Gr_join_6 : decode c_Gr_join 6 = .ok (.lconst 0, 1) := by decide +kernel
theorem d_Gr_join_7 : decode c_Gr_join 7 = .ok (.lstore_n 3, 1) := by decide +kernel
theorem d_Gr_join_8 : decode c_Gr_join 8 = .ok (.aload_n 0, 1) := by decide +kernel
theorem d_Gr_join_9 : decode c_Gr_join 9 = .ok (.iconst 0, 1) := by decide +kernel
theorem d_Gr_join_10 : decode c_Gr_join 10 = .ok (.putfield 18, 3) := by decide +kernel
theorem d_Gr_join_13 : decode c_Gr_join 13 = .ok (.iconst 0, 1) := by decide +kernel
theorem d_Gr_join_14 : decode c_Gr_join 14 = .ok (.istore 5, 2) := by decide +kernel
theorem d_Gr_join_16 : decode c_Gr_join 16 = .ok (.iload 5, 2) := by decide +kernel
theorem d_Gr_join_18 : decode c_Gr_join 18 = .ok (.aload_n 1, 1) := by decide +kernel
theorem d_Gr_join_19 : decode c_Gr_join 19 = .ok (.getfield 26, 3) := by decide +kernel
theorem d_Gr_join_22 : decode c_Gr_join 22 = .ok (.if_icmp .ge 59, 3) := by decide +kernel
theorem d_Gr_join_25 : decode c_Gr_join 25 = .ok (.lload_n 3, 1) := by decide +kernel
theorem d_Gr_join_26 : decode c_Gr_join 26 = .ok (.iload 5, 2) := by decide +kernel
theorem d_Gr_join_28 : decode c_Gr_join 28 = .ok (.invokestatic 29, 3) := by decide +kernel
theorem d_Gr_join_31 : decode c_Gr_join 31 = .ok (.ifCond .ne 44, 3) := by decide +kernel
theorem d_Gr_join_34 : decode c_Gr_join 34 = .ok (.aload_n 0, 1) := by decide +kernel
theorem d_Gr_join_35 : decode c_Gr_join 35 = .ok (.getfield 9, 3) := by decide +kernel
theorem d_Gr_join_38 : decode c_Gr_join 38 = .ok (.aload_n 0, 1) := by decide +kernel
theorem d_Gr_join_39 : decode c_Gr_join 39 = .ok (.getfield 18, 3) := by decide +kernel
theorem d_Gr_join_42 : decode c_Gr_join 42 = .ok (.aload_n 0, 1) := by decide +kernel
theorem d_Gr_join_43 : decode c_Gr_join 43 = .ok (.iload 5, 2) := by decide +kernel
theorem d_Gr_join_45 : decode c_Gr_join 45 = .ok (.aload_n 1, 1) := by decide +kernel
theorem d_Gr_join_46 : decode c_Gr_join 46 = .ok (.getfield 26, 3) := by decide +kernel
theorem d_Gr_join_49 : decode c_Gr_join 49 = .ok (.invokevirtual 33, 3) := by decide +kernel
theorem d_Gr_join_52 : decode c_Gr_join 52 = .ok (.lastore, 1) := by decide +kernel
theorem d_Gr_join_53 : decode c_Gr_join 53 = .ok (.lload_n 3, 1) := by decide +kernel
theorem d_Gr_join_54 : decode c_Gr_join 54 = .ok (.aload_n 0, 1) := by decide +kernel
theorem d_Gr_join_55 : decode c_Gr_join 55 = .ok (.getfield 9, 3) := by decide +kernel
theorem d_Gr_join_58 : decode c_Gr_join 58 = .ok (.aload_n 0, 1) := by decide +kernel
theorem d_Gr_join_59 : decode c_Gr_join 59 = .ok (.getfield 18, 3) := by decide +kernel
theorem d_Gr_join_62 : decode c_Gr_join 62 = .ok (.laload, 1) := by decide +kernel
theorem d_Gr_join_63 : decode c_Gr_join 63 = .ok (.lor, 1) := by decide +kernel
theorem d_Gr_join_64 : decode c_Gr_join 64 = .ok (.lstore_n 3, 1) := by decide +kernel
theorem d_Gr_join_65 : decode c_Gr_join 65 = .ok (.aload_n 0, 1) := by decide +kernel
theorem d_Gr_join_66 : decode c_Gr_join 66 = .ok (.dup, 1) := by decide +kernel
theorem d_Gr_join_67 : decode c_Gr_join 67 = .ok (.getfield 18, 3) := by decide +kernel
theorem d_Gr_join_70 : decode c_Gr_join 70 = .ok (.iconst 1, 1) := by decide +kernel
theorem d_Gr_join_71 : decode c_Gr_join 71 = .ok (.iadd, 1) := by decide +kernel
theorem d_Gr_join_72 : decode c_Gr_join 72 = .ok (.putfield 18, 3) := by decide +kernel
theorem d_Gr_join_75 : decode c_Gr_join 75 = .ok (.iinc 5 1, 3) := by decide +kernel
theorem d_Gr_join_78 : decode c_Gr_join 78 = .ok (.goto (-62), 3) := by decide +kernel
theorem d_Gr_join_81 : decode c_Gr_join 81 = .ok (.return_, 1) := by decide +kernel
theorem d_Gr_findClose_0 : decode c_Gr_findClose 0 = .ok (.iconst 0, 1) := by decide +kernel
theorem d_Gr_findClose_1 : decode c_Gr_findClose 1 = .ok (.istore_n 3, 1) := by decide +kernel
theorem d_Gr_findClose_2 : decode c_Gr_findClose 2 = .ok (.iload_n 3, 1) := by decide +kernel
theorem d_Gr_findClose_3 : decode c_Gr_findClose 3 = .ok (.aload_n 1, 1) := by decide +kernel
theorem d_Gr_findClose_4 : decode c_Gr_findClose 4 = .ok (.getfield 26, 3) := by decide +kernel
theorem d_Gr_findClose_7 : decode c_Gr_findClose 7 = .ok (.if_icmp .ge 58, 3) := by decide +kernel
theorem d_Gr_findClose_10 : decode c_Gr_findClose 10 = .ok (.aload_n 0, 1) := by decide +kernel
theorem d_Gr_findClose_11 : decode c_Gr_findClose 11 = .ok (.getfield 15, 3) := by decide +kernel
theorem d_Gr_findClose_14 : decode c_Gr_findClose 14 = .ok (.iload_n 3, 1) := by decide +kernel
theorem d_Gr_findClose_15 : decode c_Gr_findClose 15 = .ok (.lconst 0, 1) := by decide +kernel
theorem d_Gr_findClose_16 : decode c_Gr_findClose 16 = .ok (.lastore, 1) := by decide +kernel
theorem d_Gr_findClose_17 : decode c_Gr_findClose 17 = .ok (.iconst 0, 1) := by decide +kernel
theorem d_Gr_findClose_18 : decode c_Gr_findClose 18 = .ok (.istore 4, 2) := by decide +kernel
theorem d_Gr_findClose_20 : decode c_Gr_findClose 20 = .ok (.iload 4, 2) := by decide +kernel
theorem d_Gr_findClose_22 : decode c_Gr_findClose 22 = .ok (.aload_n 1, 1) := by decide +kernel
theorem d_Gr_findClose_23 : decode c_Gr_findClose 23 = .ok (.getfield 26, 3) := by decide +kernel
theorem d_Gr_findClose_26 : decode c_Gr_findClose 26 = .ok (.if_icmp .ge 33, 3) := by decide +kernel
theorem d_Gr_findClose_29 : decode c_Gr_findClose 29 = .ok (.aload_n 1, 1) := by decide +kernel
theorem d_Gr_findClose_30 : decode c_Gr_findClose 30 = .ok (.iload_n 3, 1) := by decide +kernel
theorem d_Gr_findClose_31 : decode c_Gr_findClose 31 = .ok (.iload 4, 2) := by decide +kernel
theorem d_Gr_findClose_33 : decode c_Gr_findClose 33 = .ok (.invokevirtual 37, 3) := by decide +kernel
theorem d_Gr_findClose_36 : decode c_Gr_findClose 36 = .ok (.iload_n 2, 1) := by decide +kernel
theorem d_Gr_findClose_37 : decode c_Gr_findClose 37 = .ok (.if_icmp .gt 16, 3) := by decide +kernel
theorem d_Gr_findClose_40 : decode c_Gr_findClose 40 = .ok (.aload_n 0, 1) := by decide +kernel
theorem d_Gr_findClose_41 : decode c_Gr_findClose 41 = .ok (.getfield 15, 3) := by decide +kernel
theorem d_Gr_findClose_44 : decode c_Gr_findClose 44 = .ok (.iload_n 3, 1) := by decide +kernel
theorem d_Gr_findClose_45 : decode c_Gr_findClose 45 = .ok (.dup2, 1) := by decide +kernel
theorem d_Gr_findClose_46 : decode c_Gr_findClose 46 = .ok (.laload, 1) := by decide +kernel
theorem d_Gr_findClose_47 : decode c_Gr_findClose 47 = .ok (.lconst 1, 1) := by decide +kernel
theorem d_Gr_findClose_48 : decode c_Gr_findClose 48 = .ok (.iload 4, 2) := by decide +kernel
theorem d_Gr_findClose_50 : decode c_Gr_findClose 50 = .ok (.lshl, 1) := by decide +kernel
theorem d_Gr_findClose_51 : decode c_Gr_findClose 51 = .ok (.lor, 1) := by decide +kernel
theorem d_Gr_findClose_52 : decode c_Gr_findClose 52 = .ok (.lastore, 1) := by decide +kernel
theorem d_Gr_findClose_53 : decode c_Gr_findClose 53 = .ok (.iinc 4 1, 3) := by decide +kernel
theorem d_Gr_findClose_56 : decode c_Gr_findClose 56 = .ok (.goto (-36), 3) := by decide +kernel
theorem d_Gr_findClose_59 : decode c_Gr_findClose 59 = .ok (.iinc 3 1, 3) := by decide +kernel
theorem d_Gr_findClose_62 : decode c_Gr_findClose 62 = .ok (.goto (-60), 3) := by decide +kernel
theorem d_Gr_findClose_65 : decode c_Gr_findClose 65 = .ok (.return_, 1) := by decide +kernel
theorem d_Gr_spread_0 : decode c_Gr_spread 0 = .ok (.aload_n 0, 1) := by decide +kernel
theorem d_Gr_spread_1 : decode c_Gr_spread 1 = .ok (.getfield 15, 3) := by decide +kernel
theorem d_Gr_spread_4 : decode c_Gr_spread 4 = .ok (.iload_n 1, 1) := by decide +kernel
theorem d_Gr_spread_5 : decode c_Gr_spread 5 = .ok (.laload, 1) := by decide +kernel
theorem d_Gr_spread_6 : decode c_Gr_spread 6 = .ok (.lstore_n 3, 1) := by decide +kernel
theorem d_Gr_spread_7 : decode c_Gr_spread 7 = .ok (.iconst 0, 1) := by decide +kernel
theorem d_Gr_spread_8 : decode c_Gr_spread 8 = .ok (.istore 5, 2) := by decide +kernel
theorem d_Gr_spread_10 : decode c_Gr_spread 10 = .ok (.iload 5, 2) := by decide +kernel
theorem d_Gr_spread_12 : decode c_Gr_spread 12 = .ok (.iload_n 2, 1) := by decide +kernel
theorem d_Gr_spread_13 : decode c_Gr_spread 13 = .ok (.if_icmp .ge 56, 3) := by decide +kernel
theorem d_Gr_spread_16 : decode c_Gr_spread 16 = .ok (.lload_n 3, 1) := by decide +kernel
theorem d_Gr_spread_17 : decode c_Gr_spread 17 = .ok (.lstore 6, 2) := by decide +kernel
theorem d_Gr_spread_19 : decode c_Gr_spread 19 = .ok (.iconst 0, 1) := by decide +kernel
theorem d_Gr_spread_20 : decode c_Gr_spread 20 = .ok (.istore 8, 2) := by decide +kernel
theorem d_Gr_spread_22 : decode c_Gr_spread 22 = .ok (.iload 8, 2) := by decide +kernel
theorem d_Gr_spread_24 : decode c_Gr_spread 24 = .ok (.iload_n 2, 1) := by decide +kernel
theorem d_Gr_spread_25 : decode c_Gr_spread 25 = .ok (.if_icmp .ge 28, 3) := by decide +kernel
theorem d_Gr_spread_28 : decode c_Gr_spread 28 = .ok (.lload_n 3, 1) := by decide +kernel
theorem d_Gr_spread_29 : decode c_Gr_spread 29 = .ok (.iload 8, 2) := by decide +kernel
theorem d_Gr_spread_31 : decode c_Gr_spread 31 = .ok (.invokestatic 29, 3) := by decide +kernel
theorem d_Gr_spread_34 : decode c_Gr_spread 34 = .ok (.ifCond .eq 13, 3) := by decide +kernel
theorem d_Gr_spread_37 : decode c_Gr_spread 37 = .ok (.lload_n 3, 1) := by decide +kernel
theorem d_Gr_spread_38 : decode c_Gr_spread 38 = .ok (.aload_n 0, 1) := by decide +kernel
theorem d_Gr_spread_39 : decode c_Gr_spread 39 = .ok (.getfield 15, 3) := by decide +kernel
theorem d_Gr_spread_42 : decode c_Gr_spread 42 = .ok (.iload 8, 2) := by decide +kernel
theorem d_Gr_spread_44 : decode c_Gr_spread 44 = .ok (.laload, 1) := by decide +kernel
theorem d_Gr_spread_45 : decode c_Gr_spread 45 = .ok (.lor, 1) := by decide +kernel
theorem d_Gr_spread_46 : decode c_Gr_spread 46 = .ok (.lstore_n 3, 1) := by decide +kernel
theorem d_Gr_spread_47 : decode c_Gr_spread 47 = .ok (.iinc 8 1, 3) := by decide +kernel
theorem d_Gr_spread_50 : decode c_Gr_spread 50 = .ok (.goto (-28), 3) := by decide +kernel
theorem d_Gr_spread_53 : decode c_Gr_spread 53 = .ok (.lload_n 3, 1) := by decide +kernel
theorem d_Gr_spread_54 : decode c_Gr_spread 54 = .ok (.lload 6, 2) := by decide +kernel
theorem d_Gr_spread_56 : decode c_Gr_spread 56 = .ok (.lcmp, 1) := by decide +kernel
theorem d_Gr_spread_57 : decode c_Gr_spread 57 = .ok (.ifCond .ne 6, 3) := by decide +kernel
theorem d_Gr_spread_60 : decode c_Gr_spread 60 = .ok (.goto 9, 3) := by decide +kernel
theorem d_Gr_spread_63 : decode c_Gr_spread 63 = .ok (.iinc 5 1, 3) := by decide +kernel
theorem d_Gr_spread_66 : decode c_Gr_spread 66 = .ok (.goto (-56), 3) := by decide +kernel
theorem d_Gr_spread_69 : decode c_Gr_spread 69 = .ok (.lload_n 3, 1) := by decide +kernel
theorem d_Gr_spread_70 : decode c_Gr_spread 70 = .ok (.lreturn, 1) := by decide +kernel
theorem d_Im_init_0 : decode c_Im_init 0 = .ok (.aload_n 0, 1) := by decide +kernel
theorem d_Im_init_1 : decode c_Im_init 1 = .ok (.invokespecial 1, 3) := by decide +kernel
theorem d_Im_init_4 : decode c_Im_init 4 = .ok (.aload_n 0, 1) := by decide +kernel
theorem d_Im_init_5 : decode c_Im_init 5 = .ok (.new 7, 3) := by decide +kernel
theorem d_Im_init_8 : decode c_Im_init 8 = .ok (.dup, 1) := by decide +kernel
theorem d_Im_init_9 : decode c_Im_init 9 = .ok (.invokespecial 9, 3) := by decide +kernel
theorem d_Im_init_12 : decode c_Im_init 12 = .ok (.putfield 10, 3) := by decide +kernel
theorem d_Im_init_15 : decode c_Im_init 15 = .ok (.return_, 1) := by decide +kernel
theorem d_Pt_init_0 : decode c_Pt_init 0 = .ok (.aload_n 0, 1) := by decide +kernel
theorem d_Pt_init_1 : decode c_Pt_init 1 = .ok (.invokespecial 3, 3) := by decide +kernel
theorem d_Pt_init_4 : decode c_Pt_init 4 = .ok (.aload_n 0, 1) := by decide +kernel
theorem d_Pt_init_5 : decode c_Pt_init 5 = .ok (.bipush 8, 2) := by decide +kernel
theorem d_Pt_init_7 : decode c_Pt_init 7 = .ok (.newarray .int, 2) := by decide +kernel
theorem d_Pt_init_9 : decode c_Pt_init 9 = .ok (.putfield 9, 3) := by decide +kernel
theorem d_Pt_init_12 : decode c_Pt_init 12 = .ok (.aload_n 0, 1) := by decide +kernel
theorem d_Pt_init_13 : decode c_Pt_init 13 = .ok (.bipush 8, 2) := by decide +kernel
theorem d_Pt_init_15 : decode c_Pt_init 15 = .ok (.newarray .long, 2) := by decide +kernel
theorem d_Pt_init_17 : decode c_Pt_init 17 = .ok (.putfield 15, 3) := by decide +kernel
theorem d_Pt_init_20 : decode c_Pt_init 20 = .ok (.return_, 1) := by decide +kernel
theorem d_Pt_reach_0 : decode c_Pt_reach 0 = .ok (.aload_n 0, 1) := by decide +kernel
theorem d_Pt_reach_1 : decode c_Pt_reach 1 = .ok (.getfield 19, 3) := by decide +kernel
theorem d_Pt_reach_4 : decode c_Pt_reach 4 = .ok (.iconst 1, 1) := by decide +kernel
theorem d_Pt_reach_5 : decode c_Pt_reach 5 = .ok (.isub, 1) := by decide +kernel
theorem d_Pt_reach_6 : decode c_Pt_reach 6 = .ok (.ireturn, 1) := by decide +kernel
theorem d_Pt_beginAt_0 : decode c_Pt_beginAt 0 = .ok (.aload_n 0, 1) := by decide +kernel
theorem d_Pt_beginAt_1 : decode c_Pt_beginAt 1 = .ok (.iconst 0, 1) := by decide +kernel
theorem d_Pt_beginAt_2 : decode c_Pt_beginAt 2 = .ok (.putfield 19, 3) := by decide +kernel
theorem d_Pt_beginAt_5 : decode c_Pt_beginAt 5 = .ok (.iconst 0, 1) := by decide +kernel
theorem d_Pt_beginAt_6 : decode c_Pt_beginAt 6 = .ok (.istore_n 3, 1) := by decide +kernel
theorem d_Pt_beginAt_7 : decode c_Pt_beginAt 7 = .ok (.iload_n 3, 1) := by decide +kernel
theorem d_Pt_beginAt_8 : decode c_Pt_beginAt 8 = .ok (.bipush 64, 2) := by decide +kernel
theorem d_Pt_beginAt_10 : decode c_Pt_beginAt 10 = .ok (.if_icmp .ge 80, 3) := by decide +kernel
theorem d_Pt_beginAt_13 : decode c_Pt_beginAt 13 = .ok (.lload_n 1, 1) := by decide +kernel
theorem d_Pt_beginAt_14 : decode c_Pt_beginAt 14 = .ok (.iload_n 3, 1) := by decide +kernel
theorem d_Pt_beginAt_15 : decode c_Pt_beginAt 15 = .ok (.invokestatic 23, 3) := by decide +kernel
theorem d_Pt_beginAt_18 : decode c_Pt_beginAt 18 = .ok (.ifCond .eq 42, 3) := by decide +kernel
theorem d_Pt_beginAt_21 : decode c_Pt_beginAt 21 = .ok (.aload_n 0, 1) := by decide +kernel
theorem d_Pt_beginAt_22 : decode c_Pt_beginAt 22 = .ok (.getfield 19, 3) := by decide +kernel
theorem d_Pt_beginAt_25 : decode c_Pt_beginAt 25 = .ok (.bipush 8, 2) := by decide +kernel
theorem d_Pt_beginAt_27 : decode c_Pt_beginAt 27 = .ok (.if_icmp .ge 33, 3) := by decide +kernel
theorem d_Pt_beginAt_30 : decode c_Pt_beginAt 30 = .ok (.aload_n 0, 1) := by decide +kernel
theorem d_Pt_beginAt_31 : decode c_Pt_beginAt 31 = .ok (.getfield 9, 3) := by decide +kernel
theorem d_Pt_beginAt_34 : decode c_Pt_beginAt 34 = .ok (.aload_n 0, 1) := by decide +kernel
theorem d_Pt_beginAt_35 : decode c_Pt_beginAt 35 = .ok (.getfield 19, 3) := by decide +kernel
theorem d_Pt_beginAt_38 : decode c_Pt_beginAt 38 = .ok (.iload_n 3, 1) := by decide +kernel
theorem d_Pt_beginAt_39 : decode c_Pt_beginAt 39 = .ok (.iastore, 1) := by decide +kernel
theorem d_Pt_beginAt_40 : decode c_Pt_beginAt 40 = .ok (.aload_n 0, 1) := by decide +kernel
theorem d_Pt_beginAt_41 : decode c_Pt_beginAt 41 = .ok (.getfield 15, 3) := by decide +kernel
theorem d_Pt_beginAt_44 : decode c_Pt_beginAt 44 = .ok (.aload_n 0, 1) := by decide +kernel
theorem d_Pt_beginAt_45 : decode c_Pt_beginAt 45 = .ok (.getfield 19, 3) := by decide +kernel
theorem d_Pt_beginAt_48 : decode c_Pt_beginAt 48 = .ok (.lconst 0, 1) := by decide +kernel
theorem d_Pt_beginAt_49 : decode c_Pt_beginAt 49 = .ok (.lastore, 1) := by decide +kernel
theorem d_Pt_beginAt_50 : decode c_Pt_beginAt 50 = .ok (.aload_n 0, 1) := by decide +kernel
theorem d_Pt_beginAt_51 : decode c_Pt_beginAt 51 = .ok (.dup, 1) := by decide +kernel
theorem d_Pt_beginAt_52 : decode c_Pt_beginAt 52 = .ok (.getfield 19, 3) := by decide +kernel
theorem d_Pt_beginAt_55 : decode c_Pt_beginAt 55 = .ok (.iconst 1, 1) := by decide +kernel
theorem d_Pt_beginAt_56 : decode c_Pt_beginAt 56 = .ok (.iadd, 1) := by decide +kernel
theorem d_Pt_beginAt_57 : decode c_Pt_beginAt 57 = .ok (.putfield 19, 3) := by decide +kernel
theorem d_Pt_beginAt_60 : decode c_Pt_beginAt 60 = .ok (.aload_n 0, 1) := by decide +kernel
theorem d_Pt_beginAt_61 : decode c_Pt_beginAt 61 = .ok (.getfield 19, 3) := by decide +kernel
theorem d_Pt_beginAt_64 : decode c_Pt_beginAt 64 = .ok (.ifCond .le 20, 3) := by decide +kernel
theorem d_Pt_beginAt_67 : decode c_Pt_beginAt 67 = .ok (.aload_n 0, 1) := by decide +kernel
theorem d_Pt_beginAt_68 : decode c_Pt_beginAt 68 = .ok (.getfield 15, 3) := by decide +kernel
theorem d_Pt_beginAt_71 : decode c_Pt_beginAt 71 = .ok (.aload_n 0, 1) := by decide +kernel
theorem d_Pt_beginAt_72 : decode c_Pt_beginAt 72 = .ok (.getfield 19, 3) := by decide +kernel
theorem d_Pt_beginAt_75 : decode c_Pt_beginAt 75 = .ok (.iconst 1, 1) := by decide +kernel
theorem d_Pt_beginAt_76 : decode c_Pt_beginAt 76 = .ok (.isub, 1) := by decide +kernel
theorem d_Pt_beginAt_77 : decode c_Pt_beginAt 77 = .ok (.dup2, 1) := by decide +kernel
theorem d_Pt_beginAt_78 : decode c_Pt_beginAt 78 = .ok (.laload, 1) := by decide +kernel
theorem d_Pt_beginAt_79 : decode c_Pt_beginAt 79 = .ok (.lconst 1, 1) := by decide +kernel
theorem d_Pt_beginAt_80 : decode c_Pt_beginAt 80 = .ok (.iload_n 3, 1) := by decide +kernel
theorem d_Pt_beginAt_81 : decode c_Pt_beginAt 81 = .ok (.lshl, 1) := by decide +kernel
theorem d_Pt_beginAt_82 : decode c_Pt_beginAt 82 = .ok (.lor, 1) := by decide +kernel
theorem d_Pt_beginAt_83 : decode c_Pt_beginAt 83 = .ok (.lastore, 1) := by decide +kernel
theorem d_Pt_beginAt_84 : decode c_Pt_beginAt 84 = .ok (.iinc 3 1, 3) := by decide +kernel
theorem d_Pt_beginAt_87 : decode c_Pt_beginAt 87 = .ok (.goto (-80), 3) := by decide +kernel
theorem d_Pt_beginAt_90 : decode c_Pt_beginAt 90 = .ok (.return_, 1) := by decide +kernel
theorem d_Pt_beginEvenly_0 : decode c_Pt_beginEvenly 0 = .ok (.bipush 64, 2) := by decide +kernel
theorem d_Pt_beginEvenly_2 : decode c_Pt_beginEvenly 2 = .ok (.iload_n 1, 1) := by decide +kernel
theorem d_Pt_beginEvenly_3 : decode c_Pt_beginEvenly 3 = .ok (.iconst 1, 1) := by decide +kernel
theorem d_Pt_beginEvenly_4 : decode c_Pt_beginEvenly 4 = .ok (.invokestatic 27, 3) := by decide +kernel
theorem d_Pt_beginEvenly_7 : decode c_Pt_beginEvenly 7 = .ok (.idiv, 1) := by decide +kernel
theorem d_Pt_beginEvenly_8 : decode c_Pt_beginEvenly 8 = .ok (.istore_n 3, 1) := by decide +kernel
theorem d_Pt_beginEvenly_9 : decode c_Pt_beginEvenly 9 = .ok (.bipush 64, 2) := by decide +kernel
theorem d_Pt_beginEvenly_11 : decode c_Pt_beginEvenly 11 = .ok (.iload_n 3, 1) := by decide +kernel
theorem d_Pt_beginEvenly_12 : decode c_Pt_beginEvenly 12 = .ok (.iload_n 1, 1) := by decide +kernel
theorem d_Pt_beginEvenly_13 : decode c_Pt_beginEvenly 13 = .ok (.imul, 1) := by decide +kernel
theorem d_Pt_beginEvenly_14 : decode c_Pt_beginEvenly 14 = .ok (.isub, 1) := by decide +kernel
theorem d_Pt_beginEvenly_15 : decode c_Pt_beginEvenly 15 = .ok (.istore 4, 2) := by decide +kernel
theorem d_Pt_beginEvenly_17 : decode c_Pt_beginEvenly 17 = .ok (.lconst 0, 1) := by decide +kernel
theorem d_Pt_beginEvenly_18 : decode c_Pt_beginEvenly 18 = .ok (.lstore 5, 2) := by decide +kernel
theorem d_Pt_beginEvenly_20 : decode c_Pt_beginEvenly 20 = .ok (.iconst 0, 1) := by decide +kernel
theorem d_Pt_beginEvenly_21 : decode c_Pt_beginEvenly 21 = .ok (.istore 7, 2) := by decide +kernel
theorem d_Pt_beginEvenly_23 : decode c_Pt_beginEvenly 23 = .ok (.iconst 0, 1) := by decide +kernel
theorem d_Pt_beginEvenly_24 : decode c_Pt_beginEvenly 24 = .ok (.istore 8, 2) := by decide +kernel
theorem d_Pt_beginEvenly_26 : decode c_Pt_beginEvenly 26 = .ok (.iload 8, 2) := by decide +kernel
theorem d_Pt_beginEvenly_28 : decode c_Pt_beginEvenly 28 = .ok (.iload_n 1, 1) := by decide +kernel
theorem d_Pt_beginEvenly_29 : decode c_Pt_beginEvenly 29 = .ok (.if_icmp .ge 42, 3) := by decide +kernel
theorem d_Pt_beginEvenly_32 : decode c_Pt_beginEvenly 32 = .ok (.lload 5, 2) := by decide +kernel
theorem d_Pt_beginEvenly_34 : decode c_Pt_beginEvenly 34 = .ok (.lconst 1, 1) := by decide +kernel
theorem d_Pt_beginEvenly_35 : decode c_Pt_beginEvenly 35 = .ok (.iload 7, 2) := by decide +kernel
theorem d_Pt_beginEvenly_37 : decode c_Pt_beginEvenly 37 = .ok (.lshl, 1) := by decide +kernel
theorem d_Pt_beginEvenly_38 : decode c_Pt_beginEvenly 38 = .ok (.lor, 1) := by decide +kernel
theorem d_Pt_beginEvenly_39 : decode c_Pt_beginEvenly 39 = .ok (.lstore 5, 2) := by decide +kernel
theorem d_Pt_beginEvenly_41 : decode c_Pt_beginEvenly 41 = .ok (.iload 7, 2) := by decide +kernel
theorem d_Pt_beginEvenly_43 : decode c_Pt_beginEvenly 43 = .ok (.iload 8, 2) := by decide +kernel
theorem d_Pt_beginEvenly_45 : decode c_Pt_beginEvenly 45 = .ok (.iload_n 1, 1) := by decide +kernel
theorem d_Pt_beginEvenly_46 : decode c_Pt_beginEvenly 46 = .ok (.iload_n 2, 1) := by decide +kernel
theorem d_Pt_beginEvenly_47 : decode c_Pt_beginEvenly 47 = .ok (.invokestatic 33, 3) := by decide +kernel
theorem d_Pt_beginEvenly_50 : decode c_Pt_beginEvenly 50 = .ok (.iload 4, 2) := by decide +kernel
theorem d_Pt_beginEvenly_52 : decode c_Pt_beginEvenly 52 = .ok (.if_icmp .ge 9, 3) := by decide +kernel
theorem d_Pt_beginEvenly_55 : decode c_Pt_beginEvenly 55 = .ok (.iload_n 3, 1) := by decide +kernel
theorem d_Pt_beginEvenly_56 : decode c_Pt_beginEvenly 56 = .ok (.iconst 1, 1) := by decide +kernel
theorem d_Pt_beginEvenly_57 : decode c_Pt_beginEvenly 57 = .ok (.iadd, 1) := by decide +kernel
theorem d_Pt_beginEvenly_58 : decode c_Pt_beginEvenly 58 = .ok (.goto 4, 3) := by decide +kernel
theorem d_Pt_beginEvenly_61 : decode c_Pt_beginEvenly 61 = .ok (.iload_n 3, 1) := by decide +kernel
theorem d_Pt_beginEvenly_62 : decode c_Pt_beginEvenly 62 = .ok (.iadd, 1) := by decide +kernel
theorem d_Pt_beginEvenly_63 : decode c_Pt_beginEvenly 63 = .ok (.istore 7, 2) := by decide +kernel
theorem d_Pt_beginEvenly_65 : decode c_Pt_beginEvenly 65 = .ok (.iinc 8 1, 3) := by decide +kernel
theorem d_Pt_beginEvenly_68 : decode c_Pt_beginEvenly 68 = .ok (.goto (-42), 3) := by decide +kernel
theorem d_Pt_beginEvenly_71 : decode c_Pt_beginEvenly 71 = .ok (.aload_n 0, 1) := by decide +kernel
theorem d_Pt_beginEvenly_72 : decode c_Pt_beginEvenly 72 = .ok (.lload 5, 2) := by decide +kernel
theorem d_Pt_beginEvenly_74 : decode c_Pt_beginEvenly 74 = .ok (.invokevirtual 37, 3) := by decide +kernel
theorem d_Pt_beginEvenly_77 : decode c_Pt_beginEvenly 77 = .ok (.return_, 1) := by decide +kernel
theorem d_Pt_turnOf_0 : decode c_Pt_turnOf 0 = .ok (.iload_n 2, 1) := by decide +kernel
theorem d_Pt_turnOf_1 : decode c_Pt_turnOf 1 = .ok (.ifCond .ne 5, 3) := by decide +kernel
theorem d_Pt_turnOf_4 : decode c_Pt_turnOf 4 = .ok (.iload_n 0, 1) := by decide +kernel
theorem d_Pt_turnOf_5 : decode c_Pt_turnOf 5 = .ok (.ireturn, 1) := by decide +kernel
theorem d_Pt_turnOf_6 : decode c_Pt_turnOf 6 = .ok (.iload_n 2, 1) := by decide +kernel
theorem d_Pt_turnOf_7 : decode c_Pt_turnOf 7 = .ok (.iconst 1, 1) := by decide +kernel
theorem d_Pt_turnOf_8 : decode c_Pt_turnOf 8 = .ok (.if_icmp .ne 9, 3) := by decide +kernel
theorem d_Pt_turnOf_11 : decode c_Pt_turnOf 11 = .ok (.iload_n 1, 1) := by decide +kernel
theorem d_Pt_turnOf_12 : decode c_Pt_turnOf 12 = .ok (.iconst 1, 1) := by decide +kernel
theorem d_Pt_turnOf_13 : decode c_Pt_turnOf 13 = .ok (.isub, 1) := by decide +kernel
theorem d_Pt_turnOf_14 : decode c_Pt_turnOf 14 = .ok (.iload_n 0, 1) := by decide +kernel
theorem d_Pt_turnOf_15 : decode c_Pt_turnOf 15 = .ok (.isub, 1) := by decide +kernel
theorem d_Pt_turnOf_16 : decode c_Pt_turnOf 16 = .ok (.ireturn, 1) := by decide +kernel
theorem d_Pt_turnOf_17 : decode c_Pt_turnOf 17 = .ok (.iload_n 0, 1) := by decide +kernel
theorem d_Pt_turnOf_18 : decode c_Pt_turnOf 18 = .ok (.iconst 2, 1) := by decide +kernel
theorem d_Pt_turnOf_19 : decode c_Pt_turnOf 19 = .ok (.irem, 1) := by decide +kernel
theorem d_Pt_turnOf_20 : decode c_Pt_turnOf 20 = .ok (.ifCond .ne 9, 3) := by decide +kernel
theorem d_Pt_turnOf_23 : decode c_Pt_turnOf 23 = .ok (.iload_n 0, 1) := by decide +kernel
theorem d_Pt_turnOf_24 : decode c_Pt_turnOf 24 = .ok (.iconst 2, 1) := by decide +kernel
theorem d_Pt_turnOf_25 : decode c_Pt_turnOf 25 = .ok (.idiv, 1) := by decide +kernel
theorem d_Pt_turnOf_26 : decode c_Pt_turnOf 26 = .ok (.goto 12, 3) := by decide +kernel
theorem d_Pt_turnOf_29 : decode c_Pt_turnOf 29 = .ok (.iload_n 1, 1) := by decide +kernel
theorem d_Pt_turnOf_30 : decode c_Pt_turnOf 30 = .ok (.iconst 1, 1) := by decide +kernel
theorem d_Pt_turnOf_31 : decode c_Pt_turnOf 31 = .ok (.iadd, 1) := by decide +kernel
theorem d_Pt_turnOf_32 : decode c_Pt_turnOf 32 = .ok (.iconst 2, 1) := by decide +kernel
theorem d_Pt_turnOf_33 : decode c_Pt_turnOf 33 = .ok (.idiv, 1) := by decide +kernel
theorem d_Pt_turnOf_34 : decode c_Pt_turnOf 34 = .ok (.iload_n 0, 1) := by decide +kernel
theorem d_Pt_turnOf_35 : decode c_Pt_turnOf 35 = .ok (.iconst 2, 1) := by decide +kernel
theorem d_Pt_turnOf_36 : decode c_Pt_turnOf 36 = .ok (.idiv, 1) := by decide +kernel
theorem d_Pt_turnOf_37 : decode c_Pt_turnOf 37 = .ok (.iadd, 1) := by decide +kernel
theorem d_Pt_turnOf_38 : decode c_Pt_turnOf 38 = .ok (.ireturn, 1) := by decide +kernel
theorem d_Pt_anyAlike_0 : decode c_Pt_anyAlike 0 = .ok (.iconst 0, 1) := by decide +kernel
theorem d_Pt_anyAlike_1 : decode c_Pt_anyAlike 1 = .ok (.istore_n 3, 1) := by decide +kernel
theorem d_Pt_anyAlike_2 : decode c_Pt_anyAlike 2 = .ok (.iload_n 3, 1) := by decide +kernel
theorem d_Pt_anyAlike_3 : decode c_Pt_anyAlike 3 = .ok (.aload_n 0, 1) := by decide +kernel
theorem d_Pt_anyAlike_4 : decode c_Pt_anyAlike 4 = .ok (.getfield 19, 3) := by decide +kernel
theorem d_Pt_anyAlike_7 : decode c_Pt_anyAlike 7 = .ok (.if_icmp .ge 24, 3) := by decide +kernel
theorem d_Pt_anyAlike_10 : decode c_Pt_anyAlike 10 = .ok (.lload_n 1, 1) := by decide +kernel
theorem d_Pt_anyAlike_11 : decode c_Pt_anyAlike 11 = .ok (.aload_n 0, 1) := by decide +kernel
theorem d_Pt_anyAlike_12 : decode c_Pt_anyAlike 12 = .ok (.getfield 15, 3) := by decide +kernel
theorem d_Pt_anyAlike_15 : decode c_Pt_anyAlike 15 = .ok (.iload_n 3, 1) := by decide +kernel
theorem d_Pt_anyAlike_16 : decode c_Pt_anyAlike 16 = .ok (.laload, 1) := by decide +kernel
theorem d_Pt_anyAlike_17 : decode c_Pt_anyAlike 17 = .ok (.land, 1) := by decide +kernel
theorem d_Pt_anyAlike_18 : decode c_Pt_anyAlike 18 = .ok (.lconst 0, 1) := by decide +kernel
theorem d_Pt_anyAlike_19 : decode c_Pt_anyAlike 19 = .ok (.lcmp, 1) := by decide +kernel
theorem d_Pt_anyAlike_20 : decode c_Pt_anyAlike 20 = .ok (.ifCond .ne 5, 3) := by decide +kernel
theorem d_Pt_anyAlike_23 : decode c_Pt_anyAlike 23 = .ok (.iconst 1, 1) := by decide +kernel
theorem d_Pt_anyAlike_24 : decode c_Pt_anyAlike 24 = .ok (.ireturn, 1) := by decide +kernel
theorem d_Pt_anyAlike_25 : decode c_Pt_anyAlike 25 = .ok (.iinc 3 1, 3) := by decide +kernel
theorem d_Pt_anyAlike_28 : decode c_Pt_anyAlike 28 = .ok (.goto (-26), 3) := by decide +kernel
theorem d_Pt_anyAlike_31 : decode c_Pt_anyAlike 31 = .ok (.iconst 0, 1) := by decide +kernel
theorem d_Pt_anyAlike_32 : decode c_Pt_anyAlike 32 = .ok (.ireturn, 1) := by decide +kernel
theorem d_Pa_init_0 : decode c_Pa_init 0 = .ok (.aload_n 0, 1) := by decide +kernel
theorem d_Pa_init_1 : decode c_Pa_init 1 = .ok (.invokespecial 3, 3) := by decide +kernel
theorem d_Pa_init_4 : decode c_Pa_init 4 = .ok (.aload_n 0, 1) := by decide +kernel
theorem d_Pa_init_5 : decode c_Pa_init 5 = .ok (.bipush 20, 2) := by decide +kernel
theorem d_Pa_init_7 : decode c_Pa_init 7 = .ok (.anewarray 9, 3) := by decide +kernel
theorem d_Pa_init_10 : decode c_Pa_init 10 = .ok (.putfield 11, 3) := by decide +kernel
theorem d_Pa_init_13 : decode c_Pa_init 13 = .ok (.iconst 0, 1) := by decide +kernel
theorem d_Pa_init_14 : decode c_Pa_init 14 = .ok (.istore_n 1, 1) := by decide +kernel
theorem d_Pa_init_15 : decode c_Pa_init 15 = .ok (.iload_n 1, 1) := by decide +kernel
theorem d_Pa_init_16 : decode c_Pa_init 16 = .ok (.bipush 20, 2) := by decide +kernel
theorem d_Pa_init_18 : decode c_Pa_init 18 = .ok (.if_icmp .ge 22, 3) := by decide +kernel
theorem d_Pa_init_21 : decode c_Pa_init 21 = .ok (.aload_n 0, 1) := by decide +kernel
theorem d_Pa_init_22 : decode c_Pa_init 22 = .ok (.getfield 11, 3) := by decide +kernel
theorem d_Pa_init_25 : decode c_Pa_init 25 = .ok (.iload_n 1, 1) := by decide +kernel
theorem d_Pa_init_26 : decode c_Pa_init 26 = .ok (.new 9, 3) := by decide +kernel
theorem d_Pa_init_29 : decode c_Pa_init 29 = .ok (.dup, 1) := by decide +kernel
theorem d_Pa_init_30 : decode c_Pa_init 30 = .ok (.invokespecial 17, 3) := by decide +kernel
theorem d_Pa_init_33 : decode c_Pa_init 33 = .ok (.aastore, 1) := by decide +kernel
theorem d_Pa_init_34 : decode c_Pa_init 34 = .ok (.iinc 1 1, 3) := by decide +kernel
theorem d_Pa_init_37 : decode c_Pa_init 37 = .ok (.goto (-22), 3) := by decide +kernel
theorem d_Pa_init_40 : decode c_Pa_init 40 = .ok (.return_, 1) := by decide +kernel
theorem d_Pa_remember_0 : decode c_Pa_remember 0 = .ok (.aload_n 0, 1) := by decide +kernel
theorem d_Pa_remember_1 : decode c_Pa_remember 1 = .ok (.getfield 11, 3) := by decide +kernel
theorem d_Pa_remember_4 : decode c_Pa_remember 4 = .ok (.aload_n 0, 1) := by decide +kernel
theorem d_Pa_remember_5 : decode c_Pa_remember 5 = .ok (.getfield 18, 3) := by decide +kernel
theorem d_Pa_remember_8 : decode c_Pa_remember 8 = .ok (.aaload, 1) := by decide +kernel
theorem d_Pa_remember_9 : decode c_Pa_remember 9 = .ok (.aload_n 1, 1) := by decide +kernel
theorem d_Pa_remember_10 : decode c_Pa_remember 10 = .ok (.invokevirtual 22, 3) := by decide +kernel
theorem d_Pa_remember_13 : decode c_Pa_remember 13 = .ok (.aload_n 0, 1) := by decide +kernel
theorem d_Pa_remember_14 : decode c_Pa_remember 14 = .ok (.aload_n 0, 1) := by decide +kernel
theorem d_Pa_remember_15 : decode c_Pa_remember 15 = .ok (.getfield 18, 3) := by decide +kernel
theorem d_Pa_remember_18 : decode c_Pa_remember 18 = .ok (.iconst 1, 1) := by decide +kernel
theorem d_Pa_remember_19 : decode c_Pa_remember 19 = .ok (.iadd, 1) := by decide +kernel
theorem d_Pa_remember_20 : decode c_Pa_remember 20 = .ok (.bipush 20, 2) := by decide +kernel
theorem d_Pa_remember_22 : decode c_Pa_remember 22 = .ok (.if_icmp .ge 12, 3) := by decide +kernel
theorem d_Pa_remember_25 : decode c_Pa_remember 25 = .ok (.aload_n 0, 1) := by decide +kernel
theorem d_Pa_remember_26 : decode c_Pa_remember 26 = .ok (.getfield 18, 3) := by decide +kernel
theorem d_Pa_remember_29 : decode c_Pa_remember 29 = .ok (.iconst 1, 1) := by decide +kernel
theorem d_Pa_remember_30 : decode c_Pa_remember 30 = .ok (.iadd, 1) := by decide +kernel
theorem d_Pa_remember_31 : decode c_Pa_remember 31 = .ok (.goto 4, 3) := by decide +kernel
theorem d_Pa_remember_34 : decode c_Pa_remember 34 = .ok (.iconst 0, 1) := by decide +kernel
theorem d_Pa_remember_35 : decode c_Pa_remember 35 = .ok (.putfield 18, 3) := by decide +kernel
theorem d_Pa_remember_38 : decode c_Pa_remember 38 = .ok (.aload_n 0, 1) := by decide +kernel
theorem d_Pa_remember_39 : decode c_Pa_remember 39 = .ok (.aload_n 0, 1) := by decide +kernel
theorem d_Pa_remember_40 : decode c_Pa_remember 40 = .ok (.getfield 26, 3) := by decide +kernel
theorem d_Pa_remember_43 : decode c_Pa_remember 43 = .ok (.iconst 1, 1) := by decide +kernel
theorem d_Pa_remember_44 : decode c_Pa_remember 44 = .ok (.iadd, 1) := by decide +kernel
theorem d_Pa_remember_45 : decode c_Pa_remember 45 = .ok (.bipush 20, 2) := by decide +kernel
theorem d_Pa_remember_47 : decode c_Pa_remember 47 = .ok (.invokestatic 29, 3) := by decide +kernel
theorem d_Pa_remember_50 : decode c_Pa_remember 50 = .ok (.putfield 26, 3) := by decide +kernel
theorem d_Pa_remember_53 : decode c_Pa_remember 53 = .ok (.return_, 1) := by decide +kernel
theorem d_Pa_bringBack_0 : decode c_Pa_bringBack 0 = .ok (.aload_n 0, 1) := by decide +kernel
theorem d_Pa_bringBack_1 : decode c_Pa_bringBack 1 = .ok (.aload_n 0, 1) := by decide +kernel
theorem d_Pa_bringBack_2 : decode c_Pa_bringBack 2 = .ok (.getfield 18, 3) := by decide +kernel
theorem d_Pa_bringBack_5 : decode c_Pa_bringBack 5 = .ok (.iload_n 1, 1) := by decide +kernel
theorem d_Pa_bringBack_6 : decode c_Pa_bringBack 6 = .ok (.if_icmp .lt 12, 3) := by decide +kernel
theorem d_Pa_bringBack_9 : decode c_Pa_bringBack 9 = .ok (.aload_n 0, 1) := by decide +kernel
theorem d_Pa_bringBack_10 : decode c_Pa_bringBack 10 = .ok (.getfield 18, 3) := by decide +kernel
theorem d_Pa_bringBack_13 : decode c_Pa_bringBack 13 = .ok (.iload_n 1, 1) := by decide +kernel
theorem d_Pa_bringBack_14 : decode c_Pa_bringBack 14 = .ok (.isub, 1) := by decide +kernel
theorem d_Pa_bringBack_15 : decode c_Pa_bringBack 15 = .ok (.goto 12, 3) := by decide +kernel
theorem d_Pa_bringBack_18 : decode c_Pa_bringBack 18 = .ok (.aload_n 0, 1) := by decide +kernel
theorem d_Pa_bringBack_19 : decode c_Pa_bringBack 19 = .ok (.getfield 18, 3) := by decide +kernel
theorem d_Pa_bringBack_22 : decode c_Pa_bringBack 22 = .ok (.iload_n 1, 1) := by decide +kernel
theorem d_Pa_bringBack_23 : decode c_Pa_bringBack 23 = .ok (.isub, 1) := by decide +kernel
theorem d_Pa_bringBack_24 : decode c_Pa_bringBack 24 = .ok (.bipush 20, 2) := by decide +kernel
theorem d_Pa_bringBack_26 : decode c_Pa_bringBack 26 = .ok (.iadd, 1) := by decide +kernel
theorem d_Pa_bringBack_27 : decode c_Pa_bringBack 27 = .ok (.putfield 18, 3) := by decide +kernel
theorem d_Pa_bringBack_30 : decode c_Pa_bringBack 30 = .ok (.aload_n 0, 1) := by decide +kernel
theorem d_Pa_bringBack_31 : decode c_Pa_bringBack 31 = .ok (.dup, 1) := by decide +kernel
theorem d_Pa_bringBack_32 : decode c_Pa_bringBack 32 = .ok (.getfield 26, 3) := by decide +kernel
theorem d_Pa_bringBack_35 : decode c_Pa_bringBack 35 = .ok (.iload_n 1, 1) := by decide +kernel
theorem d_Pa_bringBack_36 : decode c_Pa_bringBack 36 = .ok (.isub, 1) := by decide +kernel
theorem d_Pa_bringBack_37 : decode c_Pa_bringBack 37 = .ok (.putfield 26, 3) := by decide +kernel
theorem d_Pa_bringBack_40 : decode c_Pa_bringBack 40 = .ok (.aload_n 2, 1) := by decide +kernel
theorem d_Pa_bringBack_41 : decode c_Pa_bringBack 41 = .ok (.aload_n 0, 1) := by decide +kernel
theorem d_Pa_bringBack_42 : decode c_Pa_bringBack 42 = .ok (.getfield 11, 3) := by decide +kernel
theorem d_Pa_bringBack_45 : decode c_Pa_bringBack 45 = .ok (.aload_n 0, 1) := by decide +kernel
theorem d_Pa_bringBack_46 : decode c_Pa_bringBack 46 = .ok (.getfield 18, 3) := by decide +kernel
theorem d_Pa_bringBack_49 : decode c_Pa_bringBack 49 = .ok (.aaload, 1) := by decide +kernel
theorem d_Pa_bringBack_50 : decode c_Pa_bringBack 50 = .ok (.invokevirtual 22, 3) := by decide +kernel
theorem d_Pa_bringBack_53 : decode c_Pa_bringBack 53 = .ok (.return_, 1) := by decide +kernel
theorem d_Pa_forget_0 : decode c_Pa_forget 0 = .ok (.aload_n 0, 1) := by decide +kernel
theorem d_Pa_forget_1 : decode c_Pa_forget 1 = .ok (.iconst 0, 1) := by decide +kernel
theorem d_Pa_forget_2 : decode c_Pa_forget 2 = .ok (.putfield 26, 3) := by decide +kernel
theorem d_Pa_forget_5 : decode c_Pa_forget 5 = .ok (.return_, 1) := by decide +kernel
theorem d_Pi_firstRow_0 : decode c_Pi_firstRow 0 = .ok (.lload_n 0, 1) := by decide +kernel
theorem d_Pi_firstRow_1 : decode c_Pi_firstRow 1 = .ok (.ldc2_w 9, 3) := by decide +kernel
theorem d_Pi_firstRow_4 : decode c_Pi_firstRow 4 = .ok (.land, 1) := by decide +kernel
theorem d_Pi_firstRow_5 : decode c_Pi_firstRow 5 = .ok (.l2i, 1) := by decide +kernel
theorem d_Pi_firstRow_6 : decode c_Pi_firstRow 6 = .ok (.ireturn, 1) := by decide +kernel
theorem d_Pi_withRow_0 : decode c_Pi_withRow 0 = .ok (.bipush 8, 2) := by decide +kernel
theorem d_Pi_withRow_2 : decode c_Pi_withRow 2 = .ok (.iload_n 2, 1) := by decide +kernel
theorem d_Pi_withRow_3 : decode c_Pi_withRow 3 = .ok (.imul, 1) := by decide +kernel
theorem d_Pi_withRow_4 : decode c_Pi_withRow 4 = .ok (.istore 4, 2) := by decide +kernel
theorem d_Pi_withRow_6 : decode c_Pi_withRow 6 = .ok (.lload_n 0, 1) := by decide +kernel
theorem d_Pi_withRow_7 : decode c_Pi_withRow 7 = .ok (.ldc2_w 9, 3) := by decide +kernel
theorem d_Pi_withRow_10 : decode c_Pi_withRow 10 = .ok (.iload 4, 2) := by decide +kernel
theorem d_Pi_withRow_12 : decode c_Pi_withRow 12 = .ok (.lshl, 1) := by decide +kernel
theorem d_Pi_withRow_13 : decode c_Pi_withRow 13 = .ok (.ldc2_w 11, 3) := by decide +kernel
theorem d_Pi_withRow_16 : decode c_Pi_withRow 16 = .ok (.lxor, 1) := by decide +kernel
theorem d_Pi_withRow_17 : decode c_Pi_withRow 17 = .ok (.land, 1) := by decide +kernel
theorem d_Pi_withRow_18 : decode c_Pi_withRow 18 = .ok (.iload_n 3, 1) := by decide +kernel
theorem d_Pi_withRow_19 : decode c_Pi_withRow 19 = .ok (.i2l, 1) := by decide +kernel
theorem d_Pi_withRow_20 : decode c_Pi_withRow 20 = .ok (.iload 4, 2) := by decide +kernel
theorem d_Pi_withRow_22 : decode c_Pi_withRow 22 = .ok (.lshl, 1) := by decide +kernel
theorem d_Pi_withRow_23 : decode c_Pi_withRow 23 = .ok (.lor, 1) := by decide +kernel
theorem d_Pi_withRow_24 : decode c_Pi_withRow 24 = .ok (.lreturn, 1) := by decide +kernel
theorem d_Pi_ofEqualRows_0 : decode c_Pi_ofEqualRows 0 = .ok (.lconst 0, 1) := by decide +kernel
theorem d_Pi_ofEqualRows_1 : decode c_Pi_ofEqualRows 1 = .ok (.lstore_n 1, 1) := by decide +kernel
theorem d_Pi_ofEqualRows_2 : decode c_Pi_ofEqualRows 2 = .ok (.iconst 0, 1) := by decide +kernel
theorem d_Pi_ofEqualRows_3 : decode c_Pi_ofEqualRows 3 = .ok (.istore_n 3, 1) := by decide +kernel
theorem d_Pi_ofEqualRows_4 : decode c_Pi_ofEqualRows 4 = .ok (.iload_n 3, 1) := by decide +kernel
theorem d_Pi_ofEqualRows_5 : decode c_Pi_ofEqualRows 5 = .ok (.bipush 8, 2) := by decide +kernel
theorem d_Pi_ofEqualRows_7 : decode c_Pi_ofEqualRows 7 = .ok (.if_icmp .ge 16, 3) := by decide +kernel
theorem d_Pi_ofEqualRows_10 : decode c_Pi_ofEqualRows 10 = .ok (.lload_n 1, 1) := by decide +kernel
theorem d_Pi_ofEqualRows_11 : decode c_Pi_ofEqualRows 11 = .ok (.iload_n 3, 1) := by decide +kernel
theorem d_Pi_ofEqualRows_12 : decode c_Pi_ofEqualRows 12 = .ok (.iload_n 0, 1) := by decide +kernel
theorem d_Pi_ofEqualRows_13 : decode c_Pi_ofEqualRows 13 = .ok (.invokestatic 13, 3) := by decide +kernel
theorem d_Pi_ofEqualRows_16 : decode c_Pi_ofEqualRows 16 = .ok (.lstore_n 1, 1) := by decide +kernel
theorem d_Pi_ofEqualRows_17 : decode c_Pi_ofEqualRows 17 = .ok (.iinc 3 1, 3) := by decide +kernel
theorem d_Pi_ofEqualRows_20 : decode c_Pi_ofEqualRows 20 = .ok (.goto (-16), 3) := by decide +kernel
theorem d_Pi_ofEqualRows_23 : decode c_Pi_ofEqualRows 23 = .ok (.lload_n 1, 1) := by decide +kernel
theorem d_Pi_ofEqualRows_24 : decode c_Pi_ofEqualRows 24 = .ok (.lreturn, 1) := by decide +kernel
theorem d_Pi_hasDot_0 : decode c_Pi_hasDot 0 = .ok (.lload_n 0, 1) := by decide +kernel
theorem d_Pi_hasDot_1 : decode c_Pi_hasDot 1 = .ok (.bipush 8, 2) := by decide +kernel
theorem d_Pi_hasDot_3 : decode c_Pi_hasDot 3 = .ok (.iload_n 2, 1) := by decide +kernel
theorem d_Pi_hasDot_4 : decode c_Pi_hasDot 4 = .ok (.imul, 1) := by decide +kernel
theorem d_Pi_hasDot_5 : decode c_Pi_hasDot 5 = .ok (.iload_n 3, 1) := by decide +kernel
theorem d_Pi_hasDot_6 : decode c_Pi_hasDot 6 = .ok (.iadd, 1) := by decide +kernel
theorem d_Pi_hasDot_7 : decode c_Pi_hasDot 7 = .ok (.invokestatic 19, 3) := by decide +kernel
theorem d_Pi_hasDot_10 : decode c_Pi_hasDot 10 = .ok (.ireturn, 1) := by decide +kernel
theorem d_Pi_dotAt_0 : decode c_Pi_dotAt 0 = .ok (.lconst 1, 1) := by decide +kernel
theorem d_Pi_dotAt_1 : decode c_Pi_dotAt 1 = .ok (.bipush 8, 2) := by decide +kernel
theorem d_Pi_dotAt_3 : decode c_Pi_dotAt 3 = .ok (.iload_n 0, 1) := by decide +kernel
theorem d_Pi_dotAt_4 : decode c_Pi_dotAt 4 = .ok (.imul, 1) := by decide +kernel
theorem d_Pi_dotAt_5 : decode c_Pi_dotAt 5 = .ok (.iload_n 1, 1) := by decide +kernel
theorem d_Pi_dotAt_6 : decode c_Pi_dotAt 6 = .ok (.iadd, 1) := by decide +kernel
theorem d_Pi_dotAt_7 : decode c_Pi_dotAt 7 = .ok (.lshl, 1) := by decide +kernel
theorem d_Pi_dotAt_8 : decode c_Pi_dotAt 8 = .ok (.lreturn, 1) := by decide +kernel
theorem d_Pi_turned_0 : decode c_Pi_turned 0 = .ok (.lconst 0, 1) := by decide +kernel
theorem d_Pi_turned_1 : decode c_Pi_turned 1 = .ok (.lstore_n 2, 1) := by decide +kernel
theorem d_Pi_turned_2 : decode c_Pi_turned 2 = .ok (.iconst 0, 1) := by decide +kernel
theorem d_Pi_turned_3 : decode c_Pi_turned 3 = .ok (.istore 4, 2) := by decide +kernel
theorem d_Pi_turned_5 : decode c_Pi_turned 5 = .ok (.iload 4, 2) := by decide +kernel
theorem d_Pi_turned_7 : decode c_Pi_turned 7 = .ok (.bipush 8, 2) := by decide +kernel
theorem d_Pi_turned_9 : decode c_Pi_turned 9 = .ok (.if_icmp .ge 49, 3) := by decide +kernel
theorem d_Pi_turned_12 : decode c_Pi_turned 12 = .ok (.iconst 0, 1) := by decide +kernel
theorem d_Pi_turned_13 : decode c_Pi_turned 13 = .ok (.istore 5, 2) := by decide +kernel
theorem d_Pi_turned_15 : decode c_Pi_turned 15 = .ok (.iload 5, 2) := by decide +kernel
theorem d_Pi_turned_17 : decode c_Pi_turned 17 = .ok (.bipush 8, 2) := by decide +kernel
theorem d_Pi_turned_19 : decode c_Pi_turned 19 = .ok (.if_icmp .ge 33, 3) := by decide +kernel
theorem d_Pi_turned_22 : decode c_Pi_turned 22 = .ok (.lload_n 0, 1) := by decide +kernel
theorem d_Pi_turned_23 : decode c_Pi_turned 23 = .ok (.iload 4, 2) := by decide +kernel
theorem d_Pi_turned_25 : decode c_Pi_turned 25 = .ok (.iload 5, 2) := by decide +kernel
theorem d_Pi_turned_27 : decode c_Pi_turned 27 = .ok (.invokestatic 23, 3) := by decide +kernel
theorem d_Pi_turned_30 : decode c_Pi_turned 30 = .ok (.ifCond .eq 16, 3) := by decide +kernel
theorem d_Pi_turned_33 : decode c_Pi_turned 33 = .ok (.lload_n 2, 1) := by decide +kernel
theorem d_Pi_turned_34 : decode c_Pi_turned 34 = .ok (.iload 5, 2) := by decide +kernel
theorem d_Pi_turned_36 : decode c_Pi_turned 36 = .ok (.bipush 7, 2) := by decide +kernel
theorem d_Pi_turned_38 : decode c_Pi_turned 38 = .ok (.iload 4, 2) := by decide +kernel
theorem d_Pi_turned_40 : decode c_Pi_turned 40 = .ok (.isub, 1) := by decide +kernel
theorem d_Pi_turned_41 : decode c_Pi_turned 41 = .ok (.invokestatic 27, 3) := by decide +kernel
theorem d_Pi_turned_44 : decode c_Pi_turned 44 = .ok (.lor, 1) := by decide +kernel
theorem d_Pi_turned_45 : decode c_Pi_turned 45 = .ok (.lstore_n 2, 1) := by decide +kernel
theorem d_Pi_turned_46 : decode c_Pi_turned 46 = .ok (.iinc 5 1, 3) := by decide +kernel
theorem d_Pi_turned_49 : decode c_Pi_turned 49 = .ok (.goto (-34), 3) := by decide +kernel
theorem d_Pi_turned_52 : decode c_Pi_turned 52 = .ok (.iinc 4 1, 3) := by decide +kernel
theorem d_Pi_turned_55 : decode c_Pi_turned 55 = .ok (.goto (-50), 3) := by decide +kernel
theorem d_Pi_turned_58 : decode c_Pi_turned 58 = .ok (.lload_n 2, 1) := by decide +kernel
theorem d_Pi_turned_59 : decode c_Pi_turned 59 = .ok (.lreturn, 1) := by decide +kernel
theorem d_Pi_mirrored_0 : decode c_Pi_mirrored 0 = .ok (.lconst 0, 1) := by decide +kernel
theorem d_Pi_mirrored_1 : decode c_Pi_mirrored 1 = .ok (.lstore_n 2, 1) := by decide +kernel
theorem d_Pi_mirrored_2 : decode c_Pi_mirrored 2 = .ok (.iconst 0, 1) := by decide +kernel
theorem d_Pi_mirrored_3 : decode c_Pi_mirrored 3 = .ok (.istore 4, 2) := by decide +kernel
theorem d_Pi_mirrored_5 : decode c_Pi_mirrored 5 = .ok (.iload 4, 2) := by decide +kernel
theorem d_Pi_mirrored_7 : decode c_Pi_mirrored 7 = .ok (.bipush 8, 2) := by decide +kernel
theorem d_Pi_mirrored_9 : decode c_Pi_mirrored 9 = .ok (.if_icmp .ge 49, 3) := by decide +kernel
theorem d_Pi_mirrored_12 : decode c_Pi_mirrored 12 = .ok (.iconst 0, 1) := by decide +kernel
theorem d_Pi_mirrored_13 : decode c_Pi_mirrored 13 = .ok (.istore 5, 2) := by decide +kernel
theorem d_Pi_mirrored_15 : decode c_Pi_mirrored 15 = .ok (.iload 5, 2) := by decide +kernel
theorem d_Pi_mirrored_17 : decode c_Pi_mirrored 17 = .ok (.bipush 8, 2) := by decide +kernel
theorem d_Pi_mirrored_19 : decode c_Pi_mirrored 19 = .ok (.if_icmp .ge 33, 3) := by decide +kernel
theorem d_Pi_mirrored_22 : decode c_Pi_mirrored 22 = .ok (.lload_n 0, 1) := by decide +kernel
theorem d_Pi_mirrored_23 : decode c_Pi_mirrored 23 = .ok (.iload 4, 2) := by decide +kernel
theorem d_Pi_mirrored_25 : decode c_Pi_mirrored 25 = .ok (.iload 5, 2) := by decide +kernel
theorem d_Pi_mirrored_27 : decode c_Pi_mirrored 27 = .ok (.invokestatic 23, 3) := by decide +kernel
theorem d_Pi_mirrored_30 : decode c_Pi_mirrored 30 = .ok (.ifCond .eq 16, 3) := by decide +kernel
theorem d_Pi_mirrored_33 : decode c_Pi_mirrored 33 = .ok (.lload_n 2, 1) := by decide +kernel
theorem d_Pi_mirrored_34 : decode c_Pi_mirrored 34 = .ok (.iload 4, 2) := by decide +kernel
theorem d_Pi_mirrored_36 : decode c_Pi_mirrored 36 = .ok (.bipush 7, 2) := by decide +kernel
theorem d_Pi_mirrored_38 : decode c_Pi_mirrored 38 = .ok (.iload 5, 2) := by decide +kernel
theorem d_Pi_mirrored_40 : decode c_Pi_mirrored 40 = .ok (.isub, 1) := by decide +kernel
theorem d_Pi_mirrored_41 : decode c_Pi_mirrored 41 = .ok (.invokestatic 27, 3) := by decide +kernel
theorem d_Pi_mirrored_44 : decode c_Pi_mirrored 44 = .ok (.lor, 1) := by decide +kernel
theorem d_Pi_mirrored_45 : decode c_Pi_mirrored 45 = .ok (.lstore_n 2, 1) := by decide +kernel
theorem d_Pi_mirrored_46 : decode c_Pi_mirrored 46 = .ok (.iinc 5 1, 3) := by decide +kernel
theorem d_Pi_mirrored_49 : decode c_Pi_mirrored 49 = .ok (.goto (-34), 3) := by decide +kernel
theorem d_Pi_mirrored_52 : decode c_Pi_mirrored 52 = .ok (.iinc 4 1, 3) := by decide +kernel
theorem d_Pi_mirrored_55 : decode c_Pi_mirrored 55 = .ok (.goto (-50), 3) := by decide +kernel
theorem d_Pi_mirrored_58 : decode c_Pi_mirrored 58 = .ok (.lload_n 2, 1) := by decide +kernel
theorem d_Pi_mirrored_59 : decode c_Pi_mirrored 59 = .ok (.lreturn, 1) := by decide +kernel
theorem d_Si_init_0 : decode c_Si_init 0 = .ok (.aload_n 0, 1) := by decide +kernel
theorem d_Si_init_1 : decode c_Si_init 1 = .ok (.invokespecial 3, 3) := by decide +kernel
theorem d_Si_init_4 : decode c_Si_init 4 = .ok (.aload_n 0, 1) := by decide +kernel
theorem d_Si_init_5 : decode c_Si_init 5 = .ok (.bipush 6, 2) := by decide +kernel
theorem d_Si_init_7 : decode c_Si_init 7 = .ok (.newarray .long, 2) := by decide +kernel
theorem d_Si_init_9 : decode c_Si_init 9 = .ok (.putfield 9, 3) := by decide +kernel
theorem d_Si_init_12 : decode c_Si_init 12 = .ok (.aload_n 0, 1) := by decide +kernel
theorem d_Si_init_13 : decode c_Si_init 13 = .ok (.bipush 6, 2) := by decide +kernel
theorem d_Si_init_15 : decode c_Si_init 15 = .ok (.newarray .int, 2) := by decide +kernel
theorem d_Si_init_17 : decode c_Si_init 17 = .ok (.putfield 15, 3) := by decide +kernel
theorem d_Si_init_20 : decode c_Si_init 20 = .ok (.aload_n 0, 1) := by decide +kernel
theorem d_Si_init_21 : decode c_Si_init 21 = .ok (.bipush 65, 2) := by decide +kernel
theorem d_Si_init_23 : decode c_Si_init 23 = .ok (.newarray .int, 2) := by decide +kernel
theorem d_Si_init_25 : decode c_Si_init 25 = .ok (.putfield 19, 3) := by decide +kernel
theorem d_Si_init_28 : decode c_Si_init 28 = .ok (.return_, 1) := by decide +kernel
theorem d_Si_add_0 : decode c_Si_add 0 = .ok (.aload_n 0, 1) := by decide +kernel
theorem d_Si_add_1 : decode c_Si_add 1 = .ok (.getfield 22, 3) := by decide +kernel
theorem d_Si_add_4 : decode c_Si_add 4 = .ok (.bipush 6, 2) := by decide +kernel
theorem d_Si_add_6 : decode c_Si_add 6 = .ok (.if_icmp .ge 33, 3) := by decide +kernel
theorem d_Si_add_9 : decode c_Si_add 9 = .ok (.aload_n 0, 1) := by decide +kernel
theorem d_Si_add_10 : decode c_Si_add 10 = .ok (.getfield 9, 3) := by decide +kernel
theorem d_Si_add_13 : decode c_Si_add 13 = .ok (.aload_n 0, 1) := by decide +kernel
theorem d_Si_add_14 : decode c_Si_add 14 = .ok (.getfield 22, 3) := by decide +kernel
theorem d_Si_add_17 : decode c_Si_add 17 = .ok (.lload_n 1, 1) := by decide +kernel
theorem d_Si_add_18 : decode c_Si_add 18 = .ok (.lastore, 1) := by decide +kernel
theorem d_Si_add_19 : decode c_Si_add 19 = .ok (.aload_n 0, 1) := by decide +kernel
theorem d_Si_add_20 : decode c_Si_add 20 = .ok (.getfield 15, 3) := by decide +kernel
theorem d_Si_add_23 : decode c_Si_add 23 = .ok (.aload_n 0, 1) := by decide +kernel
theorem d_Si_add_24 : decode c_Si_add 24 = .ok (.getfield 22, 3) := by decide +kernel
theorem d_Si_add_27 : decode c_Si_add 27 = .ok (.iload_n 3, 1) := by decide +kernel
theorem d_Si_add_28 : decode c_Si_add 28 = .ok (.iastore, 1) := by decide +kernel
theorem d_Si_add_29 : decode c_Si_add 29 = .ok (.aload_n 0, 1) := by decide +kernel
theorem d_Si_add_30 : decode c_Si_add 30 = .ok (.dup, 1) := by decide +kernel
theorem d_Si_add_31 : decode c_Si_add 31 = .ok (.getfield 22, 3) := by decide +kernel
theorem d_Si_add_34 : decode c_Si_add 34 = .ok (.iconst 1, 1) := by decide +kernel
theorem d_Si_add_35 : decode c_Si_add 35 = .ok (.iadd, 1) := by decide +kernel
theorem d_Si_add_36 : decode c_Si_add 36 = .ok (.putfield 22, 3) := by decide +kernel
theorem d_Si_add_39 : decode c_Si_add 39 = .ok (.return_, 1) := by decide +kernel
theorem d_Si_fits_0 : decode c_Si_fits 0 = .ok (.iconst 0, 1) := by decide +kernel
theorem d_Si_fits_1 : decode c_Si_fits 1 = .ok (.istore_n 3, 1) := by decide +kernel
theorem d_Si_fits_2 : decode c_Si_fits 2 = .ok (.iload_n 3, 1) := by decide +kernel
theorem d_Si_fits_3 : decode c_Si_fits 3 = .ok (.aload_n 0, 1) := by decide +kernel
theorem d_Si_fits_4 : decode c_Si_fits 4 = .ok (.getfield 22, 3) := by decide +kernel
theorem d_Si_fits_7 : decode c_Si_fits 7 = .ok (.if_icmp .ge 30, 3) := by decide +kernel
theorem d_Si_fits_10 : decode c_Si_fits 10 = .ok (.lload_n 1, 1) := by decide +kernel
theorem d_Si_fits_11 : decode c_Si_fits 11 = .ok (.aload_n 0, 1) := by decide +kernel
theorem d_Si_fits_12 : decode c_Si_fits 12 = .ok (.getfield 9, 3) := by decide +kernel
theorem d_Si_fits_15 : decode c_Si_fits 15 = .ok (.iload_n 3, 1) := by decide +kernel
theorem d_Si_fits_16 : decode c_Si_fits 16 = .ok (.laload, 1) := by decide +kernel
theorem d_Si_fits_17 : decode c_Si_fits 17 = .ok (.invokestatic 26, 3) := by decide +kernel
theorem d_Si_fits_20 : decode c_Si_fits 20 = .ok (.aload_n 0, 1) := by decide +kernel
theorem d_Si_fits_21 : decode c_Si_fits 21 = .ok (.getfield 15, 3) := by decide +kernel
theorem d_Si_fits_24 : decode c_Si_fits 24 = .ok (.iload_n 3, 1) := by decide +kernel
theorem d_Si_fits_25 : decode c_Si_fits 25 = .ok (.iaload, 1) := by decide +kernel
theorem d_Si_fits_26 : decode c_Si_fits 26 = .ok (.if_icmp .eq 5, 3) := by decide +kernel
theorem d_Si_fits_29 : decode c_Si_fits 29 = .ok (.iconst 0, 1) := by decide +kernel
theorem d_Si_fits_30 : decode c_Si_fits 30 = .ok (.ireturn, 1) := by decide +kernel
theorem d_Si_fits_31 : decode c_Si_fits 31 = .ok (.iinc 3 1, 3) := by decide +kernel
theorem d_Si_fits_34 : decode c_Si_fits 34 = .ok (.goto (-32), 3) := by decide +kernel
theorem d_Si_fits_37 : decode c_Si_fits 37 = .ok (.iconst 1, 1) := by decide +kernel
theorem d_Si_fits_38 : decode c_Si_fits 38 = .ok (.ireturn, 1) := by decide +kernel
theorem d_Si_fitting_0 : decode c_Si_fitting 0 = .ok (.lconst 0, 1) := by decide +kernel
theorem d_Si_fitting_1 : decode c_Si_fitting 1 = .ok (.lstore_n 2, 1) := by decide +kernel
theorem d_Si_fitting_2 : decode c_Si_fitting 2 = .ok (.iconst 0, 1) := by decide +kernel
theorem d_Si_fitting_3 : decode c_Si_fitting 3 = .ok (.istore 4, 2) := by decide +kernel
theorem d_Si_fitting_5 : decode c_Si_fitting 5 = .ok (.iload 4, 2) := by decide +kernel
theorem d_Si_fitting_7 : decode c_Si_fitting 7 = .ok (.aload_n 1, 1) := by decide +kernel
theorem d_Si_fitting_8 : decode c_Si_fitting 8 = .ok (.getfield 30, 3) := by decide +kernel
theorem d_Si_fitting_11 : decode c_Si_fitting 11 = .ok (.if_icmp .ge 30, 3) := by decide +kernel
theorem d_Si_fitting_14 : decode c_Si_fitting 14 = .ok (.aload_n 0, 1) := by decide +kernel
theorem d_Si_fitting_15 : decode c_Si_fitting 15 = .ok (.aload_n 1, 1) := by decide +kernel
theorem d_Si_fitting_16 : decode c_Si_fitting 16 = .ok (.getfield 33, 3) := by decide +kernel
theorem d_Si_fitting_19 : decode c_Si_fitting 19 = .ok (.iload 4, 2) := by decide +kernel
theorem d_Si_fitting_21 : decode c_Si_fitting 21 = .ok (.laload, 1) := by decide +kernel
theorem d_Si_fitting_22 : decode c_Si_fitting 22 = .ok (.invokevirtual 36, 3) := by decide +kernel
theorem d_Si_fitting_25 : decode c_Si_fitting 25 = .ok (.ifCond .eq 10, 3) := by decide +kernel
theorem d_Si_fitting_28 : decode c_Si_fitting 28 = .ok (.lload_n 2, 1) := by decide +kernel
theorem d_Si_fitting_29 : decode c_Si_fitting 29 = .ok (.lconst 1, 1) := by decide +kernel
theorem d_Si_fitting_30 : decode c_Si_fitting 30 = .ok (.iload 4, 2) := by decide +kernel
theorem d_Si_fitting_32 : decode c_Si_fitting 32 = .ok (.lshl, 1) := by decide +kernel
theorem d_Si_fitting_33 : decode c_Si_fitting 33 = .ok (.lor, 1) := by decide +kernel
theorem d_Si_fitting_34 : decode c_Si_fitting 34 = .ok (.lstore_n 2, 1) := by decide +kernel
theorem d_Si_fitting_35 : decode c_Si_fitting 35 = .ok (.iinc 4 1, 3) := by decide +kernel
theorem d_Si_fitting_38 : decode c_Si_fitting 38 = .ok (.goto (-33), 3) := by decide +kernel
theorem d_Si_fitting_41 : decode c_Si_fitting 41 = .ok (.lload_n 2, 1) := by decide +kernel
theorem d_Si_fitting_42 : decode c_Si_fitting 42 = .ok (.lreturn, 1) := by decide +kernel
theorem d_Si_leastFitting_0 : decode c_Si_leastFitting 0 = .ok (.aload_n 0, 1) := by decide +kernel
theorem d_Si_leastFitting_1 : decode c_Si_leastFitting 1 = .ok (.aload_n 1, 1) := by decide +kernel
theorem d_Si_leastFitting_2 : decode c_Si_leastFitting 2 = .ok (.invokevirtual 40, 3) := by decide +kernel
theorem d_Si_leastFitting_5 : decode c_Si_leastFitting 5 = .ok (.invokestatic 44, 3) := by decide +kernel
theorem d_Si_leastFitting_8 : decode c_Si_leastFitting 8 = .ok (.ireturn, 1) := by decide +kernel
theorem d_Si_bestToAsk_0 : decode c_Si_bestToAsk 0 = .ok (.aload_n 0, 1) := by decide +kernel
theorem d_Si_bestToAsk_1 : decode c_Si_bestToAsk 1 = .ok (.aload_n 1, 1) := by decide +kernel
theorem d_Si_bestToAsk_2 : decode c_Si_bestToAsk 2 = .ok (.invokevirtual 40, 3) := by decide +kernel
theorem d_Si_bestToAsk_5 : decode c_Si_bestToAsk 5 = .ok (.lstore_n 2, 1) := by decide +kernel
theorem d_Si_bestToAsk_6 : decode c_Si_bestToAsk 6 = .ok (.lload_n 2, 1) := by decide +kernel
theorem d_Si_bestToAsk_7 : decode c_Si_bestToAsk 7 = .ok (.invokestatic 48, 3) := by decide +kernel
theorem d_Si_bestToAsk_10 : decode c_Si_bestToAsk 10 = .ok (.istore 4, 2) := by decide +kernel
theorem d_Si_bestToAsk_12 : decode c_Si_bestToAsk 12 = .ok (.iconst (-1), 1) := by decide +kernel
theorem d_Si_bestToAsk_13 : decode c_Si_bestToAsk 13 = .ok (.istore 5, 2) := by decide +kernel
theorem d_Si_bestToAsk_15 : decode c_Si_bestToAsk 15 = .ok (.iconst 0, 1) := by decide +kernel
theorem d_Si_bestToAsk_16 : decode c_Si_bestToAsk 16 = .ok (.istore 6, 2) := by decide +kernel
theorem d_Si_bestToAsk_18 : decode c_Si_bestToAsk 18 = .ok (.iload 6, 2) := by decide +kernel
theorem d_Si_bestToAsk_20 : decode c_Si_bestToAsk 20 = .ok (.aload_n 1, 1) := by decide +kernel
theorem d_Si_bestToAsk_21 : decode c_Si_bestToAsk 21 = .ok (.getfield 30, 3) := by decide +kernel
theorem d_Si_bestToAsk_24 : decode c_Si_bestToAsk 24 = .ok (.if_icmp .ge 34, 3) := by decide +kernel
theorem d_Si_bestToAsk_27 : decode c_Si_bestToAsk 27 = .ok (.aload_n 0, 1) := by decide +kernel
theorem d_Si_bestToAsk_28 : decode c_Si_bestToAsk 28 = .ok (.aload_n 1, 1) := by decide +kernel
theorem d_Si_bestToAsk_29 : decode c_Si_bestToAsk 29 = .ok (.lload_n 2, 1) := by decide +kernel
theorem d_Si_bestToAsk_30 : decode c_Si_bestToAsk 30 = .ok (.iload 6, 2) := by decide +kernel
theorem d_Si_bestToAsk_32 : decode c_Si_bestToAsk 32 = .ok (.invokevirtual 53, 3) := by decide +kernel
theorem d_Si_bestToAsk_35 : decode c_Si_bestToAsk 35 = .ok (.istore 7, 2) := by decide +kernel
theorem d_Si_bestToAsk_37 : decode c_Si_bestToAsk 37 = .ok (.iload 7, 2) := by decide +kernel
theorem d_Si_bestToAsk_39 : decode c_Si_bestToAsk 39 = .ok (.iload 4, 2) := by decide +kernel
theorem d_Si_bestToAsk_41 : decode c_Si_bestToAsk 41 = .ok (.if_icmp .ge 11, 3) := by decide +kernel
theorem d_Si_bestToAsk_44 : decode c_Si_bestToAsk 44 = .ok (.iload 7, 2) := by decide +kernel
theorem d_Si_bestToAsk_46 : decode c_Si_bestToAsk 46 = .ok (.istore 4, 2) := by decide +kernel
theorem d_Si_bestToAsk_48 : decode c_Si_bestToAsk 48 = .ok (.iload 6, 2) := by decide +kernel
theorem d_Si_bestToAsk_50 : decode c_Si_bestToAsk 50 = .ok (.istore 5, 2) := by decide +kernel
theorem d_Si_bestToAsk_52 : decode c_Si_bestToAsk 52 = .ok (.iinc 6 1, 3) := by decide +kernel
theorem d_Si_bestToAsk_55 : decode c_Si_bestToAsk 55 = .ok (.goto (-37), 3) := by decide +kernel
theorem d_Si_bestToAsk_58 : decode c_Si_bestToAsk 58 = .ok (.iload 5, 2) := by decide +kernel
theorem d_Si_bestToAsk_60 : decode c_Si_bestToAsk 60 = .ok (.ireturn, 1) := by decide +kernel
theorem d_Si_greatestLeft_0 : decode c_Si_greatestLeft 0 = .ok (.iconst 0, 1) := by decide +kernel
theorem d_Si_greatestLeft_1 : decode c_Si_greatestLeft 1 = .ok (.istore 5, 2) := by decide +kernel
theorem d_Si_greatestLeft_3 : decode c_Si_greatestLeft 3 = .ok (.iload 5, 2) := by decide +kernel
theorem d_Si_greatestLeft_5 : decode c_Si_greatestLeft 5 = .ok (.bipush 64, 2) := by decide +kernel
theorem d_Si_greatestLeft_7 : decode c_Si_greatestLeft 7 = .ok (.if_icmp .gt 17, 3) := by decide +kernel
theorem d_Si_greatestLeft_10 : decode c_Si_greatestLeft 10 = .ok (.aload_n 0, 1) := by decide +kernel
theorem d_Si_greatestLeft_11 : decode c_Si_greatestLeft 11 = .ok (.getfield 19, 3) := by decide +kernel
theorem d_Si_greatestLeft_14 : decode c_Si_greatestLeft 14 = .ok (.iload 5, 2) := by decide +kernel
theorem d_Si_greatestLeft_16 : decode c_Si_greatestLeft 16 = .ok (.iconst 0, 1) := by decide +kernel
theorem d_Si_greatestLeft_17 : decode c_Si_greatestLeft 17 = .ok (.iastore, 1) := by decide +kernel
theorem d_Si_greatestLeft_18 : decode c_Si_greatestLeft 18 = .ok (.iinc 5 1, 3) := by decide +kernel
theorem d_Si_greatestLeft_21 : decode c_Si_greatestLeft 21 = .ok (.goto (-18), 3) := by decide +kernel
theorem d_Si_greatestLeft_24 : decode c_Si_greatestLeft 24 = .ok (.iconst 0, 1) := by decide +kernel
theorem d_Si_greatestLeft_25 : decode c_Si_greatestLeft 25 = .ok (.istore 5, 2) := by decide +kernel
theorem d_Si_greatestLeft_27 : decode c_Si_greatestLeft 27 = .ok (.iconst 0, 1) := by decide +kernel
theorem d_Si_greatestLeft_28 : decode c_Si_greatestLeft 28 = .ok (.istore 6, 2) := by decide +kernel
theorem d_Si_greatestLeft_30 : decode c_Si_greatestLeft 30 = .ok (.iload 6, 2) := by decide +kernel
theorem d_Si_greatestLeft_32 : decode c_Si_greatestLeft 32 = .ok (.aload_n 1, 1) := by decide +kernel
theorem d_Si_greatestLeft_33 : decode c_Si_greatestLeft 33 = .ok (.getfield 30, 3) := by decide +kernel
theorem d_Si_greatestLeft_36 : decode c_Si_greatestLeft 36 = .ok (.if_icmp .ge 53, 3) := by decide +kernel
theorem d_Si_greatestLeft_39 : decode c_Si_greatestLeft 39 = .ok (.lload_n 2, 1) := by decide +kernel
theorem d_Si_greatestLeft_40 : decode c_Si_greatestLeft 40 = .ok (.iload 6, 2) := by decide +kernel
theorem d_Si_greatestLeft_42 : decode c_Si_greatestLeft 42 = .ok (.invokestatic 57, 3) := by decide +kernel
theorem d_Si_greatestLeft_45 : decode c_Si_greatestLeft 45 = .ok (.ifCond .eq 38, 3) := by decide +kernel
theorem d_Si_greatestLeft_48 : decode c_Si_greatestLeft 48 = .ok (.aload_n 1, 1) := by decide +kernel
theorem d_Si_greatestLeft_49 : decode c_Si_greatestLeft 49 = .ok (.iload 6, 2) := by decide +kernel
theorem d_Si_greatestLeft_51 : decode c_Si_greatestLeft 51 = .ok (.iload 4, 2) := by decide +kernel
theorem d_Si_greatestLeft_53 : decode c_Si_greatestLeft 53 = .ok (.invokevirtual 61, 3) := by decide +kernel
theorem d_Si_greatestLeft_56 : decode c_Si_greatestLeft 56 = .ok (.istore 7, 2) := by decide +kernel
theorem d_Si_greatestLeft_58 : decode c_Si_greatestLeft 58 = .ok (.aload_n 0, 1) := by decide +kernel
theorem d_Si_greatestLeft_59 : decode c_Si_greatestLeft 59 = .ok (.getfield 19, 3) := by decide +kernel
theorem d_Si_greatestLeft_62 : decode c_Si_greatestLeft 62 = .ok (.iload 7, 2) := by decide +kernel
theorem d_Si_greatestLeft_64 : decode c_Si_greatestLeft 64 = .ok (.dup2, 1) := by decide +kernel
theorem d_Si_greatestLeft_65 : decode c_Si_greatestLeft 65 = .ok (.iaload, 1) := by decide +kernel
theorem d_Si_greatestLeft_66 : decode c_Si_greatestLeft 66 = .ok (.iconst 1, 1) := by decide +kernel
theorem d_Si_greatestLeft_67 : decode c_Si_greatestLeft 67 = .ok (.iadd, 1) := by decide +kernel
theorem d_Si_greatestLeft_68 : decode c_Si_greatestLeft 68 = .ok (.iastore, 1) := by decide +kernel
theorem d_Si_greatestLeft_69 : decode c_Si_greatestLeft 69 = .ok (.iload 5, 2) := by decide +kernel
theorem d_Si_greatestLeft_71 : decode c_Si_greatestLeft 71 = .ok (.aload_n 0, 1) := by decide +kernel
theorem d_Si_greatestLeft_72 : decode c_Si_greatestLeft 72 = .ok (.getfield 19, 3) := by decide +kernel
theorem d_Si_greatestLeft_75 : decode c_Si_greatestLeft 75 = .ok (.iload 7, 2) := by decide +kernel
theorem d_Si_greatestLeft_77 : decode c_Si_greatestLeft 77 = .ok (.iaload, 1) := by decide +kernel
theorem d_Si_greatestLeft_78 : decode c_Si_greatestLeft 78 = .ok (.invokestatic 65, 3) := by decide +kernel
theorem d_Si_greatestLeft_81 : decode c_Si_greatestLeft 81 = .ok (.istore 5, 2) := by decide +kernel
theorem d_Si_greatestLeft_83 : decode c_Si_greatestLeft 83 = .ok (.iinc 6 1, 3) := by decide +kernel
theorem d_Si_greatestLeft_86 : decode c_Si_greatestLeft 86 = .ok (.goto (-56), 3) := by decide +kernel
theorem d_Si_greatestLeft_89 : decode c_Si_greatestLeft 89 = .ok (.iload 5, 2) := by decide +kernel
theorem d_Si_greatestLeft_91 : decode c_Si_greatestLeft 91 = .ok (.ireturn, 1) := by decide +kernel
theorem d_St_init_0 : decode c_St_init 0 = .ok (.aload_n 0, 1) := by decide +kernel
theorem d_St_init_1 : decode c_St_init 1 = .ok (.invokespecial 3, 3) := by decide +kernel
theorem d_St_init_4 : decode c_St_init 4 = .ok (.aload_n 0, 1) := by decide +kernel
theorem d_St_init_5 : decode c_St_init 5 = .ok (.ldc2_w 9, 3) := by decide +kernel
theorem d_St_init_8 : decode c_St_init 8 = .ok (.putfield 11, 3) := by decide +kernel
theorem d_St_init_11 : decode c_St_init 11 = .ok (.aload_n 0, 1) := by decide +kernel
theorem d_St_init_12 : decode c_St_init 12 = .ok (.bipush 40, 2) := by decide +kernel
theorem d_St_init_14 : decode c_St_init 14 = .ok (.newarray .long, 2) := by decide +kernel
theorem d_St_init_16 : decode c_St_init 16 = .ok (.putfield 17, 3) := by decide +kernel
theorem d_St_init_19 : decode c_St_init 19 = .ok (.aload_n 0, 1) := by decide +kernel
theorem d_St_init_20 : decode c_St_init 20 = .ok (.bipush 40, 2) := by decide +kernel
theorem d_St_init_22 : decode c_St_init 22 = .ok (.newarray .int, 2) := by decide +kernel
theorem d_St_init_24 : decode c_St_init 24 = .ok (.putfield 21, 3) := by decide +kernel
theorem d_St_init_27 : decode c_St_init 27 = .ok (.return_, 1) := by decide +kernel
theorem d_St_become_0 : decode c_St_become 0 = .ok (.aload_n 0, 1) := by decide +kernel
theorem d_St_become_1 : decode c_St_become 1 = .ok (.aload_n 1, 1) := by decide +kernel
theorem d_St_become_2 : decode c_St_become 2 = .ok (.getfield 25, 3) := by decide +kernel
theorem d_St_become_5 : decode c_St_become 5 = .ok (.putfield 25, 3) := by decide +kernel
theorem d_St_become_8 : decode c_St_become 8 = .ok (.aload_n 0, 1) := by decide +kernel
theorem d_St_become_9 : decode c_St_become 9 = .ok (.aload_n 1, 1) := by decide +kernel
theorem d_St_become_10 : decode c_St_become 10 = .ok (.getfield 11, 3) := by decide +kernel
theorem d_St_become_13 : decode c_St_become 13 = .ok (.putfield 11, 3) := by decide +kernel
theorem d_St_become_16 : decode c_St_become 16 = .ok (.aload_n 0, 1) := by decide +kernel
theorem d_St_become_17 : decode c_St_become 17 = .ok (.aload_n 1, 1) := by decide +kernel
theorem d_St_become_18 : decode c_St_become 18 = .ok (.getfield 28, 3) := by decide +kernel
theorem d_St_become_21 : decode c_St_become 21 = .ok (.putfield 28, 3) := by decide +kernel
theorem d_St_become_24 : decode c_St_become 24 = .ok (.iconst 0, 1) := by decide +kernel
theorem d_St_become_25 : decode c_St_become 25 = .ok (.istore_n 2, 1) := by decide +kernel
theorem d_St_become_26 : decode c_St_become 26 = .ok (.iload_n 2, 1) := by decide +kernel
theorem d_St_become_27 : decode c_St_become 27 = .ok (.aload_n 0, 1) := by decide +kernel
theorem d_St_become_28 : decode c_St_become 28 = .ok (.getfield 28, 3) := by decide +kernel
theorem d_St_become_31 : decode c_St_become 31 = .ok (.if_icmp .ge 33, 3) := by decide +kernel
theorem d_St_become_34 : decode c_St_become 34 = .ok (.aload_n 0, 1) := by decide +kernel
theorem d_St_become_35 : decode c_St_become 35 = .ok (.getfield 17, 3) := by decide +kernel
theorem d_St_become_38 : decode c_St_become 38 = .ok (.iload_n 2, 1) := by decide +kernel
theorem d_St_become_39 : decode c_St_become 39 = .ok (.aload_n 1, 1) := by decide +kernel
theorem d_St_become_40 : decode c_St_become 40 = .ok (.getfield 17, 3) := by decide +kernel
theorem d_St_become_43 : decode c_St_become 43 = .ok (.iload_n 2, 1) := by decide +kernel
theorem d_St_become_44 : decode c_St_become 44 = .ok (.laload, 1) := by decide +kernel
theorem d_St_become_45 : decode c_St_become 45 = .ok (.lastore, 1) := by decide +kernel
theorem d_St_become_46 : decode c_St_become 46 = .ok (.aload_n 0, 1) := by decide +kernel
theorem d_St_become_47 : decode c_St_become 47 = .ok (.getfield 21, 3) := by decide +kernel
theorem d_St_become_50 : decode c_St_become 50 = .ok (.iload_n 2, 1) := by decide +kernel
theorem d_St_become_51 : decode c_St_become 51 = .ok (.aload_n 1, 1) := by decide +kernel
theorem d_St_become_52 : decode c_St_become 52 = .ok (.getfield 21, 3) := by decide +kernel
theorem d_St_become_55 : decode c_St_become 55 = .ok (.iload_n 2, 1) := by decide +kernel
theorem d_St_become_56 : decode c_St_become 56 = .ok (.iaload, 1) := by decide +kernel
theorem d_St_become_57 : decode c_St_become 57 = .ok (.iastore, 1) := by decide +kernel
theorem d_St_become_58 : decode c_St_become 58 = .ok (.iinc 2 1, 3) := by decide +kernel
theorem d_St_become_61 : decode c_St_become 61 = .ok (.goto (-35), 3) := by decide +kernel
theorem d_St_become_64 : decode c_St_become 64 = .ok (.return_, 1) := by decide +kernel
theorem d_St_has_0 : decode c_St_has 0 = .ok (.iload_n 1, 1) := by decide +kernel
theorem d_St_has_1 : decode c_St_has 1 = .ok (.ifCond .lt 15, 3) := by decide +kernel
theorem d_St_has_4 : decode c_St_has 4 = .ok (.iload_n 1, 1) := by decide +kernel
theorem d_St_has_5 : decode c_St_has 5 = .ok (.aload_n 0, 1) := by decide +kernel
theorem d_St_has_6 : decode c_St_has 6 = .ok (.getfield 28, 3) := by decide +kernel
theorem d_St_has_9 : decode c_St_has 9 = .ok (.if_icmp .ge 7, 3) := by decide +kernel
theorem d_St_has_12 : decode c_St_has 12 = .ok (.iconst 1, 1) := by decide +kernel
theorem d_St_has_13 : decode c_St_has 13 = .ok (.goto 4, 3) := by decide +kernel
theorem d_St_has_16 : decode c_St_has 16 = .ok (.iconst 0, 1) := by decide +kernel
theorem d_St_has_17 : decode c_St_has 17 = .ok (.ireturn, 1) := by decide +kernel
theorem d_St_hasBoth_0 : decode c_St_hasBoth 0 = .ok (.aload_n 0, 1) := by decide +kernel
theorem d_St_hasBoth_1 : decode c_St_hasBoth 1 = .ok (.iload_n 1, 1) := by decide +kernel
theorem d_St_hasBoth_2 : decode c_St_hasBoth 2 = .ok (.invokevirtual 32, 3) := by decide +kernel
theorem d_St_hasBoth_5 : decode c_St_hasBoth 5 = .ok (.ifCond .eq 20, 3) := by decide +kernel
theorem d_St_hasBoth_8 : decode c_St_hasBoth 8 = .ok (.aload_n 0, 1) := by decide +kernel
theorem d_St_hasBoth_9 : decode c_St_hasBoth 9 = .ok (.iload_n 2, 1) := by decide +kernel
theorem d_St_hasBoth_10 : decode c_St_hasBoth 10 = .ok (.invokevirtual 32, 3) := by decide +kernel
theorem d_St_hasBoth_13 : decode c_St_hasBoth 13 = .ok (.ifCond .eq 12, 3) := by decide +kernel
theorem d_St_hasBoth_16 : decode c_St_hasBoth 16 = .ok (.iload_n 1, 1) := by decide +kernel
theorem d_St_hasBoth_17 : decode c_St_hasBoth 17 = .ok (.iload_n 2, 1) := by decide +kernel
theorem d_St_hasBoth_18 : decode c_St_hasBoth 18 = .ok (.if_icmp .eq 7, 3) := by decide +kernel
theorem d_St_hasBoth_21 : decode c_St_hasBoth 21 = .ok (.iconst 1, 1) := by decide +kernel
theorem d_St_hasBoth_22 : decode c_St_hasBoth 22 = .ok (.goto 4, 3) := by decide +kernel
theorem d_St_hasBoth_25 : decode c_St_hasBoth 25 = .ok (.iconst 0, 1) := by decide +kernel
theorem d_St_hasBoth_26 : decode c_St_hasBoth 26 = .ok (.ireturn, 1) := by decide +kernel
theorem d_St_numberOf_0 : decode c_St_numberOf 0 = .ok (.iconst 0, 1) := by decide +kernel
theorem d_St_numberOf_1 : decode c_St_numberOf 1 = .ok (.istore_n 3, 1) := by decide +kernel
theorem d_St_numberOf_2 : decode c_St_numberOf 2 = .ok (.iload_n 3, 1) := by decide +kernel
theorem d_St_numberOf_3 : decode c_St_numberOf 3 = .ok (.aload_n 0, 1) := by decide +kernel
theorem d_St_numberOf_4 : decode c_St_numberOf 4 = .ok (.getfield 28, 3) := by decide +kernel
theorem d_St_numberOf_7 : decode c_St_numberOf 7 = .ok (.if_icmp .ge 22, 3) := by decide +kernel
theorem d_St_numberOf_10 : decode c_St_numberOf 10 = .ok (.aload_n 0, 1) := by decide +kernel
theorem d_St_numberOf_11 : decode c_St_numberOf 11 = .ok (.getfield 17, 3) := by decide +kernel
theorem d_St_numberOf_14 : decode c_St_numberOf 14 = .ok (.iload_n 3, 1) := by decide +kernel
theorem d_St_numberOf_15 : decode c_St_numberOf 15 = .ok (.laload, 1) := by decide +kernel
theorem d_St_numberOf_16 : decode c_St_numberOf 16 = .ok (.lload_n 1, 1) := by decide +kernel
theorem d_St_numberOf_17 : decode c_St_numberOf 17 = .ok (.lcmp, 1) := by decide +kernel
theorem d_St_numberOf_18 : decode c_St_numberOf 18 = .ok (.ifCond .ne 5, 3) := by decide +kernel
theorem d_St_numberOf_21 : decode c_St_numberOf 21 = .ok (.iload_n 3, 1) := by decide +kernel
theorem d_St_numberOf_22 : decode c_St_numberOf 22 = .ok (.ireturn, 1) := by decide +kernel
theorem d_St_numberOf_23 : decode c_St_numberOf 23 = .ok (.iinc 3 1, 3) := by decide +kernel
theorem d_St_numberOf_26 : decode c_St_numberOf 26 = .ok (.goto (-24), 3) := by decide +kernel
theorem d_St_numberOf_29 : decode c_St_numberOf 29 = .ok (.iconst (-1), 1) := by decide +kernel
theorem d_St_numberOf_30 : decode c_St_numberOf 30 = .ok (.ireturn, 1) := by decide +kernel
theorem d_St_addHand_0 : decode c_St_addHand 0 = .ok (.aload_n 0, 1) := by decide +kernel
theorem d_St_addHand_1 : decode c_St_addHand 1 = .ok (.getfield 28, 3) := by decide +kernel
theorem d_St_addHand_4 : decode c_St_addHand 4 = .ok (.bipush 40, 2) := by decide +kernel
theorem d_St_addHand_6 : decode c_St_addHand 6 = .ok (.if_icmp .ge 36, 3) := by decide +kernel
theorem d_St_addHand_9 : decode c_St_addHand 9 = .ok (.aload_n 0, 1) := by decide +kernel
theorem d_St_addHand_10 : decode c_St_addHand 10 = .ok (.getfield 17, 3) := by decide +kernel
theorem d_St_addHand_13 : decode c_St_addHand 13 = .ok (.aload_n 0, 1) := by decide +kernel
theorem d_St_addHand_14 : decode c_St_addHand 14 = .ok (.getfield 28, 3) := by decide +kernel
theorem d_St_addHand_17 : decode c_St_addHand 17 = .ok (.aload_n 0, 1) := by decide +kernel
theorem d_St_addHand_18 : decode c_St_addHand 18 = .ok (.getfield 25, 3) := by decide +kernel
theorem d_St_addHand_21 : decode c_St_addHand 21 = .ok (.lastore, 1) := by decide +kernel
theorem d_St_addHand_22 : decode c_St_addHand 22 = .ok (.aload_n 0, 1) := by decide +kernel
theorem d_St_addHand_23 : decode c_St_addHand 23 = .ok (.getfield 21, 3) := by decide +kernel
theorem d_St_addHand_26 : decode c_St_addHand 26 = .ok (.aload_n 0, 1) := by decide +kernel
theorem d_St_addHand_27 : decode c_St_addHand 27 = .ok (.getfield 28, 3) := by decide +kernel
theorem d_St_addHand_30 : decode c_St_addHand 30 = .ok (.iload_n 1, 1) := by decide +kernel
theorem d_St_addHand_31 : decode c_St_addHand 31 = .ok (.iastore, 1) := by decide +kernel
theorem d_St_addHand_32 : decode c_St_addHand 32 = .ok (.aload_n 0, 1) := by decide +kernel
theorem d_St_addHand_33 : decode c_St_addHand 33 = .ok (.dup, 1) := by decide +kernel
theorem d_St_addHand_34 : decode c_St_addHand 34 = .ok (.getfield 28, 3) := by decide +kernel
theorem d_St_addHand_37 : decode c_St_addHand 37 = .ok (.iconst 1, 1) := by decide +kernel
theorem d_St_addHand_38 : decode c_St_addHand 38 = .ok (.iadd, 1) := by decide +kernel
theorem d_St_addHand_39 : decode c_St_addHand 39 = .ok (.putfield 28, 3) := by decide +kernel
theorem d_St_addHand_42 : decode c_St_addHand 42 = .ok (.return_, 1) := by decide +kernel
theorem d_St_remove_0 : decode c_St_remove 0 = .ok (.iload_n 1, 1) := by decide +kernel
theorem d_St_remove_1 : decode c_St_remove 1 = .ok (.iconst 1, 1) := by decide +kernel
theorem d_St_remove_2 : decode c_St_remove 2 = .ok (.iadd, 1) := by decide +kernel
theorem d_St_remove_3 : decode c_St_remove 3 = .ok (.istore_n 2, 1) := by decide +kernel
theorem d_St_remove_4 : decode c_St_remove 4 = .ok (.iload_n 2, 1) := by decide +kernel
theorem d_St_remove_5 : decode c_St_remove 5 = .ok (.aload_n 0, 1) := by decide +kernel
theorem d_St_remove_6 : decode c_St_remove 6 = .ok (.getfield 28, 3) := by decide +kernel
theorem d_St_remove_9 : decode c_St_remove 9 = .ok (.if_icmp .ge 37, 3) := by decide +kernel
theorem d_St_remove_12 : decode c_St_remove 12 = .ok (.aload_n 0, 1) := by decide +kernel
theorem d_St_remove_13 : decode c_St_remove 13 = .ok (.getfield 17, 3) := by decide +kernel
theorem d_St_remove_16 : decode c_St_remove 16 = .ok (.iload_n 2, 1) := by decide +kernel
theorem d_St_remove_17 : decode c_St_remove 17 = .ok (.iconst 1, 1) := by decide +kernel
theorem d_St_remove_18 : decode c_St_remove 18 = .ok (.isub, 1) := by decide +kernel
theorem d_St_remove_19 : decode c_St_remove 19 = .ok (.aload_n 0, 1) := by decide +kernel
theorem d_St_remove_20 : decode c_St_remove 20 = .ok (.getfield 17, 3) := by decide +kernel
theorem d_St_remove_23 : decode c_St_remove 23 = .ok (.iload_n 2, 1) := by decide +kernel
theorem d_St_remove_24 : decode c_St_remove 24 = .ok (.laload, 1) := by decide +kernel
theorem d_St_remove_25 : decode c_St_remove 25 = .ok (.lastore, 1) := by decide +kernel
theorem d_St_remove_26 : decode c_St_remove 26 = .ok (.aload_n 0, 1) := by decide +kernel
theorem d_St_remove_27 : decode c_St_remove 27 = .ok (.getfield 21, 3) := by decide +kernel
theorem d_St_remove_30 : decode c_St_remove 30 = .ok (.iload_n 2, 1) := by decide +kernel
theorem d_St_remove_31 : decode c_St_remove 31 = .ok (.iconst 1, 1) := by decide +kernel
theorem d_St_remove_32 : decode c_St_remove 32 = .ok (.isub, 1) := by decide +kernel
theorem d_St_remove_33 : decode c_St_remove 33 = .ok (.aload_n 0, 1) := by decide +kernel
theorem d_St_remove_34 : decode c_St_remove 34 = .ok (.getfield 21, 3) := by decide +kernel
theorem d_St_remove_37 : decode c_St_remove 37 = .ok (.iload_n 2, 1) := by decide +kernel
theorem d_St_remove_38 : decode c_St_remove 38 = .ok (.iaload, 1) := by decide +kernel
theorem d_St_remove_39 : decode c_St_remove 39 = .ok (.iastore, 1) := by decide +kernel
theorem d_St_remove_40 : decode c_St_remove 40 = .ok (.iinc 2 1, 3) := by decide +kernel
theorem d_St_remove_43 : decode c_St_remove 43 = .ok (.goto (-39), 3) := by decide +kernel
theorem d_St_remove_46 : decode c_St_remove 46 = .ok (.aload_n 0, 1) := by decide +kernel
theorem d_St_remove_47 : decode c_St_remove 47 = .ok (.dup, 1) := by decide +kernel
theorem d_St_remove_48 : decode c_St_remove 48 = .ok (.getfield 28, 3) := by decide +kernel
theorem d_St_remove_51 : decode c_St_remove 51 = .ok (.iconst 1, 1) := by decide +kernel
theorem d_St_remove_52 : decode c_St_remove 52 = .ok (.isub, 1) := by decide +kernel
theorem d_St_remove_53 : decode c_St_remove 53 = .ok (.putfield 28, 3) := by decide +kernel
theorem d_St_remove_56 : decode c_St_remove 56 = .ok (.return_, 1) := by decide +kernel
theorem d_St_fromHand_0 : decode c_St_fromHand 0 = .ok (.aload_n 0, 1) := by decide +kernel
theorem d_St_fromHand_1 : decode c_St_fromHand 1 = .ok (.getfield 17, 3) := by decide +kernel
theorem d_St_fromHand_4 : decode c_St_fromHand 4 = .ok (.iload_n 1, 1) := by decide +kernel
theorem d_St_fromHand_5 : decode c_St_fromHand 5 = .ok (.laload, 1) := by decide +kernel
theorem d_St_fromHand_6 : decode c_St_fromHand 6 = .ok (.aload_n 0, 1) := by decide +kernel
theorem d_St_fromHand_7 : decode c_St_fromHand 7 = .ok (.getfield 25, 3) := by decide +kernel
theorem d_St_fromHand_10 : decode c_St_fromHand 10 = .ok (.invokestatic 36, 3) := by decide +kernel
theorem d_St_fromHand_13 : decode c_St_fromHand 13 = .ok (.ireturn, 1) := by decide +kernel
theorem d_St_between_0 : decode c_St_between 0 = .ok (.aload_n 0, 1) := by decide +kernel
theorem d_St_between_1 : decode c_St_between 1 = .ok (.getfield 17, 3) := by decide +kernel
theorem d_St_between_4 : decode c_St_between 4 = .ok (.iload_n 1, 1) := by decide +kernel
theorem d_St_between_5 : decode c_St_between 5 = .ok (.laload, 1) := by decide +kernel
theorem d_St_between_6 : decode c_St_between 6 = .ok (.aload_n 0, 1) := by decide +kernel
theorem d_St_between_7 : decode c_St_between 7 = .ok (.getfield 17, 3) := by decide +kernel
theorem d_St_between_10 : decode c_St_between 10 = .ok (.iload_n 2, 1) := by decide +kernel
theorem d_St_between_11 : decode c_St_between 11 = .ok (.laload, 1) := by decide +kernel
theorem d_St_between_12 : decode c_St_between 12 = .ok (.invokestatic 36, 3) := by decide +kernel
theorem d_St_between_15 : decode c_St_between 15 = .ok (.ireturn, 1) := by decide +kernel
theorem d_St_byDistance_0 : decode c_St_byDistance 0 = .ok (.iconst 0, 1) := by decide +kernel
theorem d_St_byDistance_1 : decode c_St_byDistance 1 = .ok (.istore_n 2, 1) := by decide +kernel
theorem d_St_byDistance_2 : decode c_St_byDistance 2 = .ok (.iload_n 2, 1) := by decide +kernel
theorem d_St_byDistance_3 : decode c_St_byDistance 3 = .ok (.aload_n 0, 1) := by decide +kernel
theorem d_St_byDistance_4 : decode c_St_byDistance 4 = .ok (.getfield 28, 3) := by decide +kernel
theorem d_St_byDistance_7 : decode c_St_byDistance 7 = .ok (.if_icmp .ge 20, 3) := by decide +kernel
theorem d_St_byDistance_10 : decode c_St_byDistance 10 = .ok (.aload_n 0, 1) := by decide +kernel
theorem d_St_byDistance_11 : decode c_St_byDistance 11 = .ok (.iload_n 2, 1) := by decide +kernel
theorem d_St_byDistance_12 : decode c_St_byDistance 12 = .ok (.invokevirtual 40, 3) := by decide +kernel
theorem d_St_byDistance_15 : decode c_St_byDistance 15 = .ok (.iload_n 1, 1) := by decide +kernel
theorem d_St_byDistance_16 : decode c_St_byDistance 16 = .ok (.if_icmp .ne 5, 3) := by decide +kernel
theorem d_St_byDistance_19 : decode c_St_byDistance 19 = .ok (.iload_n 2, 1) := by decide +kernel
theorem d_St_byDistance_20 : decode c_St_byDistance 20 = .ok (.ireturn, 1) := by decide +kernel
theorem d_St_byDistance_21 : decode c_St_byDistance 21 = .ok (.iinc 2 1, 3) := by decide +kernel
theorem d_St_byDistance_24 : decode c_St_byDistance 24 = .ok (.goto (-22), 3) := by decide +kernel
theorem d_St_byDistance_27 : decode c_St_byDistance 27 = .ok (.iconst (-1), 1) := by decide +kernel
theorem d_St_byDistance_28 : decode c_St_byDistance 28 = .ok (.ireturn, 1) := by decide +kernel
theorem d_St_countNearerThan_0 : decode c_St_countNearerThan 0 = .ok (.aload_n 0, 1) := by decide +kernel
theorem d_St_countNearerThan_1 : decode c_St_countNearerThan 1 = .ok (.iload_n 1, 1) := by decide +kernel
theorem d_St_countNearerThan_2 : decode c_St_countNearerThan 2 = .ok (.invokevirtual 44, 3) := by decide +kernel
theorem d_St_countNearerThan_5 : decode c_St_countNearerThan 5 = .ok (.istore_n 2, 1) := by decide +kernel
theorem d_St_countNearerThan_6 : decode c_St_countNearerThan 6 = .ok (.iconst 0, 1) := by decide +kernel
theorem d_St_countNearerThan_7 : decode c_St_countNearerThan 7 = .ok (.istore_n 3, 1) := by decide +kernel
theorem d_St_countNearerThan_8 : decode c_St_countNearerThan 8 = .ok (.iconst 0, 1) := by decide +kernel
theorem d_St_countNearerThan_9 : decode c_St_countNearerThan 9 = .ok (.istore 4, 2) := by decide +kernel
theorem d_St_countNearerThan_11 : decode c_St_countNearerThan 11 = .ok (.iload 4, 2) := by decide +kernel
theorem d_St_countNearerThan_13 : decode c_St_countNearerThan 13 = .ok (.aload_n 0, 1) := by decide +kernel
theorem d_St_countNearerThan_14 : decode c_St_countNearerThan 14 = .ok (.getfield 28, 3) := by decide +kernel
theorem d_St_countNearerThan_17 : decode c_St_countNearerThan 17 = .ok (.if_icmp .ge 38, 3) := by decide +kernel
theorem d_St_countNearerThan_20 : decode c_St_countNearerThan 20 = .ok (.aload_n 0, 1) := by decide +kernel
theorem d_St_countNearerThan_21 : decode c_St_countNearerThan 21 = .ok (.iload 4, 2) := by decide +kernel
theorem d_St_countNearerThan_23 : decode c_St_countNearerThan 23 = .ok (.invokevirtual 44, 3) := by decide +kernel
theorem d_St_countNearerThan_26 : decode c_St_countNearerThan 26 = .ok (.istore 5, 2) := by decide +kernel
theorem d_St_countNearerThan_28 : decode c_St_countNearerThan 28 = .ok (.iload 5, 2) := by decide +kernel
theorem d_St_countNearerThan_30 : decode c_St_countNearerThan 30 = .ok (.iload_n 2, 1) := by decide +kernel
theorem d_St_countNearerThan_31 : decode c_St_countNearerThan 31 = .ok (.if_icmp .lt 15, 3) := by decide +kernel
theorem d_St_countNearerThan_34 : decode c_St_countNearerThan 34 = .ok (.iload 5, 2) := by decide +kernel
theorem d_St_countNearerThan_36 : decode c_St_countNearerThan 36 = .ok (.iload_n 2, 1) := by decide +kernel
theorem d_St_countNearerThan_37 : decode c_St_countNearerThan 37 = .ok (.if_icmp .ne 12, 3) := by decide +kernel
theorem d_St_countNearerThan_40 : decode c_St_countNearerThan 40 = .ok (.iload 4, 2) := by decide +kernel
theorem d_St_countNearerThan_42 : decode c_St_countNearerThan 42 = .ok (.iload_n 1, 1) := by decide +kernel
theorem d_St_countNearerThan_43 : decode c_St_countNearerThan 43 = .ok (.if_icmp .ge 6, 3) := by decide +kernel
theorem d_St_countNearerThan_46 : decode c_St_countNearerThan 46 = .ok (.iinc 3 1, 3) := by decide +kernel
theorem d_St_countNearerThan_49 : decode c_St_countNearerThan 49 = .ok (.iinc 4 1, 3) := by decide +kernel
theorem d_St_countNearerThan_52 : decode c_St_countNearerThan 52 = .ok (.goto (-41), 3) := by decide +kernel
theorem d_St_countNearerThan_55 : decode c_St_countNearerThan 55 = .ok (.iload_n 3, 1) := by decide +kernel
theorem d_St_countNearerThan_56 : decode c_St_countNearerThan 56 = .ok (.ireturn, 1) := by decide +kernel
theorem d_St_widthOf_0 : decode c_St_widthOf 0 = .ok (.iconst 0, 1) := by decide +kernel
theorem d_St_widthOf_1 : decode c_St_widthOf 1 = .ok (.istore_n 3, 1) := by decide +kernel
theorem d_St_widthOf_2 : decode c_St_widthOf 2 = .ok (.iconst 0, 1) := by decide +kernel
theorem d_St_widthOf_3 : decode c_St_widthOf 3 = .ok (.istore 4, 2) := by decide +kernel
theorem d_St_widthOf_5 : decode c_St_widthOf 5 = .ok (.iload 4, 2) := by decide +kernel
theorem d_St_widthOf_7 : decode c_St_widthOf 7 = .ok (.aload_n 0, 1) := by decide +kernel
theorem d_St_widthOf_8 : decode c_St_widthOf 8 = .ok (.getfield 28, 3) := by decide +kernel
theorem d_St_widthOf_11 : decode c_St_widthOf 11 = .ok (.if_icmp .ge 61, 3) := by decide +kernel
theorem d_St_widthOf_14 : decode c_St_widthOf 14 = .ok (.iload 4, 2) := by decide +kernel
theorem d_St_widthOf_16 : decode c_St_widthOf 16 = .ok (.iconst 1, 1) := by decide +kernel
theorem d_St_widthOf_17 : decode c_St_widthOf 17 = .ok (.iadd, 1) := by decide +kernel
theorem d_St_widthOf_18 : decode c_St_widthOf 18 = .ok (.istore 5, 2) := by decide +kernel
theorem d_St_widthOf_20 : decode c_St_widthOf 20 = .ok (.iload 5, 2) := by decide +kernel
theorem d_St_widthOf_22 : decode c_St_widthOf 22 = .ok (.aload_n 0, 1) := by decide +kernel
theorem d_St_widthOf_23 : decode c_St_widthOf 23 = .ok (.getfield 28, 3) := by decide +kernel
theorem d_St_widthOf_26 : decode c_St_widthOf 26 = .ok (.if_icmp .ge 40, 3) := by decide +kernel
theorem d_St_widthOf_29 : decode c_St_widthOf 29 = .ok (.lload_n 1, 1) := by decide +kernel
theorem d_St_widthOf_30 : decode c_St_widthOf 30 = .ok (.iload 4, 2) := by decide +kernel
theorem d_St_widthOf_32 : decode c_St_widthOf 32 = .ok (.invokestatic 47, 3) := by decide +kernel
theorem d_St_widthOf_35 : decode c_St_widthOf 35 = .ok (.ifCond .eq 25, 3) := by decide +kernel
theorem d_St_widthOf_38 : decode c_St_widthOf 38 = .ok (.lload_n 1, 1) := by decide +kernel
theorem d_St_widthOf_39 : decode c_St_widthOf 39 = .ok (.iload 5, 2) := by decide +kernel
theorem d_St_widthOf_41 : decode c_St_widthOf 41 = .ok (.invokestatic 47, 3) := by decide +kernel
theorem d_St_widthOf_44 : decode c_St_widthOf 44 = .ok (.ifCond .eq 16, 3) := by decide +kernel
theorem d_St_widthOf_47 : decode c_St_widthOf 47 = .ok (.iload_n 3, 1) := by decide +kernel
theorem d_St_widthOf_48 : decode c_St_widthOf 48 = .ok (.aload_n 0, 1) := by decide +kernel
theorem d_St_widthOf_49 : decode c_St_widthOf 49 = .ok (.iload 4, 2) := by decide +kernel
theorem d_St_widthOf_51 : decode c_St_widthOf 51 = .ok (.iload 5, 2) := by decide +kernel
theorem d_St_widthOf_53 : decode c_St_widthOf 53 = .ok (.invokevirtual 51, 3) := by decide +kernel
theorem d_St_widthOf_56 : decode c_St_widthOf 56 = .ok (.invokestatic 55, 3) := by decide +kernel
theorem d_St_widthOf_59 : decode c_St_widthOf 59 = .ok (.istore_n 3, 1) := by decide +kernel
theorem d_St_widthOf_60 : decode c_St_widthOf 60 = .ok (.iinc 5 1, 3) := by decide +kernel
theorem d_St_widthOf_63 : decode c_St_widthOf 63 = .ok (.goto (-43), 3) := by decide +kernel
theorem d_St_widthOf_66 : decode c_St_widthOf 66 = .ok (.iinc 4 1, 3) := by decide +kernel
theorem d_St_widthOf_69 : decode c_St_widthOf 69 = .ok (.goto (-64), 3) := by decide +kernel
theorem d_St_widthOf_72 : decode c_St_widthOf 72 = .ok (.iload_n 3, 1) := by decide +kernel
theorem d_St_widthOf_73 : decode c_St_widthOf 73 = .ok (.ireturn, 1) := by decide +kernel
theorem d_Lg_bitCount_0 : decode c_Lg_bitCount 0 = .ok (.lload_n 0, 1) := by decide +kernel
theorem d_Lg_bitCount_1 : decode c_Lg_bitCount 1 = .ok (.lload_n 0, 1) := by decide +kernel
theorem d_Lg_bitCount_2 : decode c_Lg_bitCount 2 = .ok (.iconst 1, 1) := by decide +kernel
theorem d_Lg_bitCount_3 : decode c_Lg_bitCount 3 = .ok (.lushr, 1) := by decide +kernel
theorem d_Lg_bitCount_4 : decode c_Lg_bitCount 4 = .ok (.ldc2_w 314, 3) := by decide +kernel
theorem d_Lg_bitCount_7 : decode c_Lg_bitCount 7 = .ok (.land, 1) := by decide +kernel
theorem d_Lg_bitCount_8 : decode c_Lg_bitCount 8 = .ok (.lsub, 1) := by decide +kernel
theorem d_Lg_bitCount_9 : decode c_Lg_bitCount 9 = .ok (.lstore_n 0, 1) := by decide +kernel
theorem d_Lg_bitCount_10 : decode c_Lg_bitCount 10 = .ok (.lload_n 0, 1) := by decide +kernel
theorem d_Lg_bitCount_11 : decode c_Lg_bitCount 11 = .ok (.ldc2_w 316, 3) := by decide +kernel
theorem d_Lg_bitCount_14 : decode c_Lg_bitCount 14 = .ok (.land, 1) := by decide +kernel
theorem d_Lg_bitCount_15 : decode c_Lg_bitCount 15 = .ok (.lload_n 0, 1) := by decide +kernel
theorem d_Lg_bitCount_16 : decode c_Lg_bitCount 16 = .ok (.iconst 2, 1) := by decide +kernel
theorem d_Lg_bitCount_17 : decode c_Lg_bitCount 17 = .ok (.lushr, 1) := by decide +kernel
theorem d_Lg_bitCount_18 : decode c_Lg_bitCount 18 = .ok (.ldc2_w 316, 3) := by decide +kernel
theorem d_Lg_bitCount_21 : decode c_Lg_bitCount 21 = .ok (.land, 1) := by decide +kernel
theorem d_Lg_bitCount_22 : decode c_Lg_bitCount 22 = .ok (.ladd, 1) := by decide +kernel
theorem d_Lg_bitCount_23 : decode c_Lg_bitCount 23 = .ok (.lstore_n 0, 1) := by decide +kernel
theorem d_Lg_bitCount_24 : decode c_Lg_bitCount 24 = .ok (.lload_n 0, 1) := by decide +kernel
theorem d_Lg_bitCount_25 : decode c_Lg_bitCount 25 = .ok (.lload_n 0, 1) := by decide +kernel
theorem d_Lg_bitCount_26 : decode c_Lg_bitCount 26 = .ok (.iconst 4, 1) := by decide +kernel
theorem d_Lg_bitCount_27 : decode c_Lg_bitCount 27 = .ok (.lushr, 1) := by decide +kernel
theorem d_Lg_bitCount_28 : decode c_Lg_bitCount 28 = .ok (.ladd, 1) := by decide +kernel
theorem d_Lg_bitCount_29 : decode c_Lg_bitCount 29 = .ok (.ldc2_w 318, 3) := by decide +kernel
theorem d_Lg_bitCount_32 : decode c_Lg_bitCount 32 = .ok (.land, 1) := by decide +kernel
theorem d_Lg_bitCount_33 : decode c_Lg_bitCount 33 = .ok (.lstore_n 0, 1) := by decide +kernel
theorem d_Lg_bitCount_34 : decode c_Lg_bitCount 34 = .ok (.lload_n 0, 1) := by decide +kernel
theorem d_Lg_bitCount_35 : decode c_Lg_bitCount 35 = .ok (.lload_n 0, 1) := by decide +kernel
theorem d_Lg_bitCount_36 : decode c_Lg_bitCount 36 = .ok (.bipush 8, 2) := by decide +kernel
theorem d_Lg_bitCount_38 : decode c_Lg_bitCount 38 = .ok (.lushr, 1) := by decide +kernel
theorem d_Lg_bitCount_39 : decode c_Lg_bitCount 39 = .ok (.ladd, 1) := by decide +kernel
theorem d_Lg_bitCount_40 : decode c_Lg_bitCount 40 = .ok (.lstore_n 0, 1) := by decide +kernel
theorem d_Lg_bitCount_41 : decode c_Lg_bitCount 41 = .ok (.lload_n 0, 1) := by decide +kernel
theorem d_Lg_bitCount_42 : decode c_Lg_bitCount 42 = .ok (.lload_n 0, 1) := by decide +kernel
theorem d_Lg_bitCount_43 : decode c_Lg_bitCount 43 = .ok (.bipush 16, 2) := by decide +kernel
theorem d_Lg_bitCount_45 : decode c_Lg_bitCount 45 = .ok (.lushr, 1) := by decide +kernel
theorem d_Lg_bitCount_46 : decode c_Lg_bitCount 46 = .ok (.ladd, 1) := by decide +kernel
theorem d_Lg_bitCount_47 : decode c_Lg_bitCount 47 = .ok (.lstore_n 0, 1) := by decide +kernel
theorem d_Lg_bitCount_48 : decode c_Lg_bitCount 48 = .ok (.lload_n 0, 1) := by decide +kernel
theorem d_Lg_bitCount_49 : decode c_Lg_bitCount 49 = .ok (.lload_n 0, 1) := by decide +kernel
theorem d_Lg_bitCount_50 : decode c_Lg_bitCount 50 = .ok (.bipush 32, 2) := by decide +kernel
theorem d_Lg_bitCount_52 : decode c_Lg_bitCount 52 = .ok (.lushr, 1) := by decide +kernel
theorem d_Lg_bitCount_53 : decode c_Lg_bitCount 53 = .ok (.ladd, 1) := by decide +kernel
theorem d_Lg_bitCount_54 : decode c_Lg_bitCount 54 = .ok (.lstore_n 0, 1) := by decide +kernel
theorem d_Lg_bitCount_55 : decode c_Lg_bitCount 55 = .ok (.lload_n 0, 1) := by decide +kernel
theorem d_Lg_bitCount_56 : decode c_Lg_bitCount 56 = .ok (.l2i, 1) := by decide +kernel
theorem d_Lg_bitCount_57 : decode c_Lg_bitCount 57 = .ok (.bipush 127, 2) := by decide +kernel
theorem d_Lg_bitCount_59 : decode c_Lg_bitCount 59 = .ok (.iand, 1) := by decide +kernel
theorem d_Lg_bitCount_60 : decode c_Lg_bitCount 60 = .ok (.ireturn, 1) := by decide +kernel
theorem d_Ma_max_0 : decode c_Ma_max 0 = .ok (.iload_n 0, 1) := by decide +kernel
theorem d_Ma_max_1 : decode c_Ma_max 1 = .ok (.iload_n 1, 1) := by decide +kernel
theorem d_Ma_max_2 : decode c_Ma_max 2 = .ok (.if_icmp .lt 7, 3) := by decide +kernel
theorem d_Ma_max_5 : decode c_Ma_max 5 = .ok (.iload_n 0, 1) := by decide +kernel
theorem d_Ma_max_6 : decode c_Ma_max 6 = .ok (.goto 4, 3) := by decide +kernel
theorem d_Ma_max_9 : decode c_Ma_max 9 = .ok (.iload_n 1, 1) := by decide +kernel
theorem d_Ma_max_10 : decode c_Ma_max 10 = .ok (.ireturn, 1) := by decide +kernel
theorem d_Ma_min_0 : decode c_Ma_min 0 = .ok (.iload_n 0, 1) := by decide +kernel
theorem d_Ma_min_1 : decode c_Ma_min 1 = .ok (.iload_n 1, 1) := by decide +kernel
theorem d_Ma_min_2 : decode c_Ma_min 2 = .ok (.if_icmp .gt 7, 3) := by decide +kernel
theorem d_Ma_min_5 : decode c_Ma_min 5 = .ok (.iload_n 0, 1) := by decide +kernel
theorem d_Ma_min_6 : decode c_Ma_min 6 = .ok (.goto 4, 3) := by decide +kernel
theorem d_Ma_min_9 : decode c_Ma_min 9 = .ok (.iload_n 1, 1) := by decide +kernel
theorem d_Ma_min_10 : decode c_Ma_min 10 = .ok (.ireturn, 1) := by decide +kernel
