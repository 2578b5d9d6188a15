theorem dX0_init_0 : decode cX0_init 0 = .ok (.aload_n 0, 1) := by decide +kernel
theorem dX0_init_1 : decode cX0_init 1 = .ok (.invokespecial 1, 3) := by decide +kernel
theorem dX0_init_4 : decode cX0_init 4 = .ok (.aload_n 0, 1) := by decide +kernel
theorem dX0_init_5 : decode cX0_init 5 = .ok (.iload_n 1, 1) := by decide +kernel
theorem dX0_init_6 : decode cX0_init 6 = .ok (.putfield 7, 3) := by decide +kernel
theorem dX0_init_9 : decode cX0_init 9 = .ok (.aload_n 0, 1) := by decide +kernel
theorem dX0_init_10 : decode cX0_init 10 = .ok (.iload_n 2, 1) := by decide +kernel
theorem dX0_init_11 : decode cX0_init 11 = .ok (.putfield 13, 3) := by decide +kernel
theorem dX0_init_14 : decode cX0_init 14 = .ok (.aload_n 0, 1) := by decide +kernel
theorem dX0_init_15 : decode cX0_init 15 = .ok (.iload_n 3, 1) := by decide +kernel
theorem dX0_init_16 : decode cX0_init 16 = .ok (.putfield 16, 3) := by decide +kernel
theorem dX0_init_19 : decode cX0_init 19 = .ok (.return_, 1) := by decide +kernel
theorem dX1_init_0 : decode cX1_init 0 = .ok (.aload_n 0, 1) := by decide +kernel
theorem dX1_init_1 : decode cX1_init 1 = .ok (.invokespecial 1, 3) := by decide +kernel
theorem dX1_init_4 : decode cX1_init 4 = .ok (.return_, 1) := by decide +kernel
theorem dX2_init_0 : decode cX2_init 0 = .ok (.aload_n 0, 1) := by decide +kernel
theorem dX2_init_1 : decode cX2_init 1 = .ok (.invokespecial 3, 3) := by decide +kernel
theorem dX2_init_4 : decode cX2_init 4 = .ok (.aload_n 0, 1) := by decide +kernel
theorem dX2_init_5 : decode cX2_init 5 = .ok (.new 9, 3) := by decide +kernel
theorem dX2_init_8 : decode cX2_init 8 = .ok (.dup, 1) := by decide +kernel
theorem dX2_init_9 : decode cX2_init 9 = .ok (.invokespecial 11, 3) := by decide +kernel
theorem dX2_init_12 : decode cX2_init 12 = .ok (.putfield 12, 3) := by decide +kernel
theorem dX2_init_15 : decode cX2_init 15 = .ok (.aload_n 0, 1) := by decide +kernel
theorem dX2_init_16 : decode cX2_init 16 = .ok (.bipush 60, 2) := by decide +kernel
theorem dX2_init_18 : decode cX2_init 18 = .ok (.newarray .int, 2) := by decide +kernel
theorem dX2_init_20 : decode cX2_init 20 = .ok (.putfield 18, 3) := by decide +kernel
theorem dX2_init_23 : decode cX2_init 23 = .ok (.return_, 1) := by decide +kernel
theorem dX2_addMove_0 : decode cX2_addMove 0 = .ok (.aload_n 0, 1) := by decide +kernel
theorem dX2_addMove_1 : decode cX2_addMove 1 = .ok (.new 22, 3) := by decide +kernel
theorem dX2_addMove_4 : decode cX2_addMove 4 = .ok (.dup, 1) := by decide +kernel
theorem dX2_addMove_5 : decode cX2_addMove 5 = .ok (.iload_n 1, 1) := by decide +kernel
theorem dX2_addMove_6 : decode cX2_addMove 6 = .ok (.iload_n 2, 1) := by decide +kernel
theorem dX2_addMove_7 : decode cX2_addMove 7 = .ok (.iconst 0, 1) := by decide +kernel
theorem dX2_addMove_8 : decode cX2_addMove 8 = .ok (.invokespecial 24, 3) := by decide +kernel
theorem dX2_addMove_11 : decode cX2_addMove 11 = .ok (.invokevirtual 27, 3) := by decide +kernel
theorem dX2_addMove_14 : decode cX2_addMove 14 = .ok (.return_, 1) := by decide +kernel
theorem dX2_addRun_0 : decode cX2_addRun 0 = .ok (.aload_n 0, 1) := by decide +kernel
theorem dX2_addRun_1 : decode cX2_addRun 1 = .ok (.new 22, 3) := by decide +kernel
theorem dX2_addRun_4 : decode cX2_addRun 4 = .ok (.dup, 1) := by decide +kernel
theorem dX2_addRun_5 : decode cX2_addRun 5 = .ok (.iload_n 1, 1) := by decide +kernel
theorem dX2_addRun_6 : decode cX2_addRun 6 = .ok (.iconst (-1), 1) := by decide +kernel
theorem dX2_addRun_7 : decode cX2_addRun 7 = .ok (.iload_n 2, 1) := by decide +kernel
theorem dX2_addRun_8 : decode cX2_addRun 8 = .ok (.invokespecial 24, 3) := by decide +kernel
theorem dX2_addRun_11 : decode cX2_addRun 11 = .ok (.invokevirtual 27, 3) := by decide +kernel
theorem dX2_addRun_14 : decode cX2_addRun 14 = .ok (.return_, 1) := by decide +kernel
theorem dX2_add_0 : decode cX2_add 0 = .ok (.aload_n 0, 1) := by decide +kernel
theorem dX2_add_1 : decode cX2_add 1 = .ok (.getfield 12, 3) := by decide +kernel
theorem dX2_add_4 : decode cX2_add 4 = .ok (.invokevirtual 31, 3) := by decide +kernel
theorem dX2_add_7 : decode cX2_add 7 = .ok (.sipush 512, 3) := by decide +kernel
theorem dX2_add_10 : decode cX2_add 10 = .ok (.if_icmp .ge 12, 3) := by decide +kernel
theorem dX2_add_13 : decode cX2_add 13 = .ok (.aload_n 0, 1) := by decide +kernel
theorem dX2_add_14 : decode cX2_add 14 = .ok (.getfield 12, 3) := by decide +kernel
theorem dX2_add_17 : decode cX2_add 17 = .ok (.aload_n 1, 1) := by decide +kernel
theorem dX2_add_18 : decode cX2_add 18 = .ok (.invokevirtual 35, 3) := by decide +kernel
theorem dX2_add_21 : decode cX2_add 21 = .ok (.pop, 1) := by decide +kernel
theorem dX2_add_22 : decode cX2_add 22 = .ok (.return_, 1) := by decide +kernel
theorem dX2_movesOf_0 : decode cX2_movesOf 0 = .ok (.iconst 0, 1) := by decide +kernel
theorem dX2_movesOf_1 : decode cX2_movesOf 1 = .ok (.istore_n 2, 1) := by decide +kernel
theorem dX2_movesOf_2 : decode cX2_movesOf 2 = .ok (.iconst 0, 1) := by decide +kernel
theorem dX2_movesOf_3 : decode cX2_movesOf 3 = .ok (.istore_n 3, 1) := by decide +kernel
theorem dX2_movesOf_4 : decode cX2_movesOf 4 = .ok (.iload_n 3, 1) := by decide +kernel
theorem dX2_movesOf_5 : decode cX2_movesOf 5 = .ok (.aload_n 0, 1) := by decide +kernel
theorem dX2_movesOf_6 : decode cX2_movesOf 6 = .ok (.getfield 12, 3) := by decide +kernel
theorem dX2_movesOf_9 : decode cX2_movesOf 9 = .ok (.invokevirtual 31, 3) := by decide +kernel
theorem dX2_movesOf_12 : decode cX2_movesOf 12 = .ok (.if_icmp .ge 30, 3) := by decide +kernel
theorem dX2_movesOf_15 : decode cX2_movesOf 15 = .ok (.aload_n 0, 1) := by decide +kernel
theorem dX2_movesOf_16 : decode cX2_movesOf 16 = .ok (.getfield 12, 3) := by decide +kernel
theorem dX2_movesOf_19 : decode cX2_movesOf 19 = .ok (.iload_n 3, 1) := by decide +kernel
theorem dX2_movesOf_20 : decode cX2_movesOf 20 = .ok (.invokevirtual 38, 3) := by decide +kernel
theorem dX2_movesOf_23 : decode cX2_movesOf 23 = .ok (.checkcast 22, 3) := by decide +kernel
theorem dX2_movesOf_26 : decode cX2_movesOf 26 = .ok (.iload_n 1, 1) := by decide +kernel
theorem dX2_movesOf_27 : decode cX2_movesOf 27 = .ok (.invokestatic 42, 3) := by decide +kernel
theorem dX2_movesOf_30 : decode cX2_movesOf 30 = .ok (.ifCond .eq 6, 3) := by decide +kernel
theorem dX2_movesOf_33 : decode cX2_movesOf 33 = .ok (.iinc 2 1, 3) := by decide +kernel
theorem dX2_movesOf_36 : decode cX2_movesOf 36 = .ok (.iinc 3 1, 3) := by decide +kernel
theorem dX2_movesOf_39 : decode cX2_movesOf 39 = .ok (.goto (-35), 3) := by decide +kernel
theorem dX2_movesOf_42 : decode cX2_movesOf 42 = .ok (.iload_n 2, 1) := by decide +kernel
theorem dX2_movesOf_43 : decode cX2_movesOf 43 = .ok (.ireturn, 1) := by decide +kernel
theorem dX2_moveOf_0 : decode cX2_moveOf 0 = .ok (.iconst 0, 1) := by decide +kernel
theorem dX2_moveOf_1 : decode cX2_moveOf 1 = .ok (.istore_n 3, 1) := by decide +kernel
theorem dX2_moveOf_2 : decode cX2_moveOf 2 = .ok (.iconst 0, 1) := by decide +kernel
theorem dX2_moveOf_3 : decode cX2_moveOf 3 = .ok (.istore 4, 2) := by decide +kernel
theorem dX2_moveOf_5 : decode cX2_moveOf 5 = .ok (.iload 4, 2) := by decide +kernel
theorem dX2_moveOf_7 : decode cX2_moveOf 7 = .ok (.aload_n 0, 1) := by decide +kernel
theorem dX2_moveOf_8 : decode cX2_moveOf 8 = .ok (.getfield 12, 3) := by decide +kernel
theorem dX2_moveOf_11 : decode cX2_moveOf 11 = .ok (.invokevirtual 31, 3) := by decide +kernel
theorem dX2_moveOf_14 : decode cX2_moveOf 14 = .ok (.if_icmp .ge 43, 3) := by decide +kernel
theorem dX2_moveOf_17 : decode cX2_moveOf 17 = .ok (.aload_n 0, 1) := by decide +kernel
theorem dX2_moveOf_18 : decode cX2_moveOf 18 = .ok (.getfield 12, 3) := by decide +kernel
theorem dX2_moveOf_21 : decode cX2_moveOf 21 = .ok (.iload 4, 2) := by decide +kernel
theorem dX2_moveOf_23 : decode cX2_moveOf 23 = .ok (.invokevirtual 38, 3) := by decide +kernel
theorem dX2_moveOf_26 : decode cX2_moveOf 26 = .ok (.checkcast 22, 3) := by decide +kernel
theorem dX2_moveOf_29 : decode cX2_moveOf 29 = .ok (.astore 5, 2) := by decide +kernel
theorem dX2_moveOf_31 : decode cX2_moveOf 31 = .ok (.aload 5, 2) := by decide +kernel
theorem dX2_moveOf_33 : decode cX2_moveOf 33 = .ok (.iload_n 1, 1) := by decide +kernel
theorem dX2_moveOf_34 : decode cX2_moveOf 34 = .ok (.invokestatic 42, 3) := by decide +kernel
theorem dX2_moveOf_37 : decode cX2_moveOf 37 = .ok (.ifCond .eq 14, 3) := by decide +kernel
theorem dX2_moveOf_40 : decode cX2_moveOf 40 = .ok (.iload_n 3, 1) := by decide +kernel
theorem dX2_moveOf_41 : decode cX2_moveOf 41 = .ok (.iload_n 2, 1) := by decide +kernel
theorem dX2_moveOf_42 : decode cX2_moveOf 42 = .ok (.if_icmp .ne 6, 3) := by decide +kernel
theorem dX2_moveOf_45 : decode cX2_moveOf 45 = .ok (.aload 5, 2) := by decide +kernel
theorem dX2_moveOf_47 : decode cX2_moveOf 47 = .ok (.areturn, 1) := by decide +kernel
theorem dX2_moveOf_48 : decode cX2_moveOf 48 = .ok (.iinc 3 1, 3) := by decide +kernel
theorem dX2_moveOf_51 : decode cX2_moveOf 51 = .ok (.iinc 4 1, 3) := by decide +kernel
theorem dX2_moveOf_54 : decode cX2_moveOf 54 = .ok (.goto (-49), 3) := by decide +kernel
theorem dX2_moveOf_57 : decode cX2_moveOf 57 = .ok (.aconst_null, 1) := by decide +kernel
theorem dX2_moveOf_58 : decode cX2_moveOf 58 = .ok (.areturn, 1) := by decide +kernel
theorem dX2_isMoveOf_0 : decode cX2_isMoveOf 0 = .ok (.aload_n 0, 1) := by decide +kernel
theorem dX2_isMoveOf_1 : decode cX2_isMoveOf 1 = .ok (.getfield 46, 3) := by decide +kernel
theorem dX2_isMoveOf_4 : decode cX2_isMoveOf 4 = .ok (.iload_n 1, 1) := by decide +kernel
theorem dX2_isMoveOf_5 : decode cX2_isMoveOf 5 = .ok (.if_icmp .ne 14, 3) := by decide +kernel
theorem dX2_isMoveOf_8 : decode cX2_isMoveOf 8 = .ok (.aload_n 0, 1) := by decide +kernel
theorem dX2_isMoveOf_9 : decode cX2_isMoveOf 9 = .ok (.getfield 50, 3) := by decide +kernel
theorem dX2_isMoveOf_12 : decode cX2_isMoveOf 12 = .ok (.ifCond .ne 7, 3) := by decide +kernel
theorem dX2_isMoveOf_15 : decode cX2_isMoveOf 15 = .ok (.iconst 1, 1) := by decide +kernel
theorem dX2_isMoveOf_16 : decode cX2_isMoveOf 16 = .ok (.goto 4, 3) := by decide +kernel
theorem dX2_isMoveOf_19 : decode cX2_isMoveOf 19 = .ok (.iconst 0, 1) := by decide +kernel
theorem dX2_isMoveOf_20 : decode cX2_isMoveOf 20 = .ok (.ireturn, 1) := by decide +kernel
theorem dX2_lifeOf_0 : decode cX2_lifeOf 0 = .ok (.iconst 0, 1) := by decide +kernel
theorem dX2_lifeOf_1 : decode cX2_lifeOf 1 = .ok (.istore_n 2, 1) := by decide +kernel
theorem dX2_lifeOf_2 : decode cX2_lifeOf 2 = .ok (.iload_n 2, 1) := by decide +kernel
theorem dX2_lifeOf_3 : decode cX2_lifeOf 3 = .ok (.aload_n 0, 1) := by decide +kernel
theorem dX2_lifeOf_4 : decode cX2_lifeOf 4 = .ok (.getfield 18, 3) := by decide +kernel
theorem dX2_lifeOf_7 : decode cX2_lifeOf 7 = .ok (.arraylength, 1) := by decide +kernel
theorem dX2_lifeOf_8 : decode cX2_lifeOf 8 = .ok (.if_icmp .ge 16, 3) := by decide +kernel
theorem dX2_lifeOf_11 : decode cX2_lifeOf 11 = .ok (.aload_n 0, 1) := by decide +kernel
theorem dX2_lifeOf_12 : decode cX2_lifeOf 12 = .ok (.getfield 18, 3) := by decide +kernel
theorem dX2_lifeOf_15 : decode cX2_lifeOf 15 = .ok (.iload_n 2, 1) := by decide +kernel
theorem dX2_lifeOf_16 : decode cX2_lifeOf 16 = .ok (.iconst (-1), 1) := by decide +kernel
theorem dX2_lifeOf_17 : decode cX2_lifeOf 17 = .ok (.iastore, 1) := by decide +kernel
theorem dX2_lifeOf_18 : decode cX2_lifeOf 18 = .ok (.iinc 2 1, 3) := by decide +kernel
theorem dX2_lifeOf_21 : decode cX2_lifeOf 21 = .ok (.goto (-19), 3) := by decide +kernel
theorem dX2_lifeOf_24 : decode cX2_lifeOf 24 = .ok (.iconst 0, 1) := by decide +kernel
theorem dX2_lifeOf_25 : decode cX2_lifeOf 25 = .ok (.istore_n 2, 1) := by decide +kernel
theorem dX2_lifeOf_26 : decode cX2_lifeOf 26 = .ok (.iconst 0, 1) := by decide +kernel
theorem dX2_lifeOf_27 : decode cX2_lifeOf 27 = .ok (.istore_n 3, 1) := by decide +kernel
theorem dX2_lifeOf_28 : decode cX2_lifeOf 28 = .ok (.iload_n 3, 1) := by decide +kernel
theorem dX2_lifeOf_29 : decode cX2_lifeOf 29 = .ok (.aload_n 0, 1) := by decide +kernel
theorem dX2_lifeOf_30 : decode cX2_lifeOf 30 = .ok (.getfield 12, 3) := by decide +kernel
theorem dX2_lifeOf_33 : decode cX2_lifeOf 33 = .ok (.invokevirtual 31, 3) := by decide +kernel
theorem dX2_lifeOf_36 : decode cX2_lifeOf 36 = .ok (.if_icmp .ge 85, 3) := by decide +kernel
theorem dX2_lifeOf_39 : decode cX2_lifeOf 39 = .ok (.aload_n 0, 1) := by decide +kernel
theorem dX2_lifeOf_40 : decode cX2_lifeOf 40 = .ok (.getfield 12, 3) := by decide +kernel
theorem dX2_lifeOf_43 : decode cX2_lifeOf 43 = .ok (.iload_n 3, 1) := by decide +kernel
theorem dX2_lifeOf_44 : decode cX2_lifeOf 44 = .ok (.invokevirtual 38, 3) := by decide +kernel
theorem dX2_lifeOf_47 : decode cX2_lifeOf 47 = .ok (.checkcast 22, 3) := by decide +kernel
theorem dX2_lifeOf_50 : decode cX2_lifeOf 50 = .ok (.astore 4, 2) := by decide +kernel
theorem dX2_lifeOf_52 : decode cX2_lifeOf 52 = .ok (.aload 4, 2) := by decide +kernel
theorem dX2_lifeOf_54 : decode cX2_lifeOf 54 = .ok (.getfield 50, 3) := by decide +kernel
theorem dX2_lifeOf_57 : decode cX2_lifeOf 57 = .ok (.ifCond .le 31, 3) := by decide +kernel
theorem dX2_lifeOf_60 : decode cX2_lifeOf 60 = .ok (.iload_n 2, 1) := by decide +kernel
theorem dX2_lifeOf_61 : decode cX2_lifeOf 61 = .ok (.aload_n 0, 1) := by decide +kernel
theorem dX2_lifeOf_62 : decode cX2_lifeOf 62 = .ok (.iload_n 1, 1) := by decide +kernel
theorem dX2_lifeOf_63 : decode cX2_lifeOf 63 = .ok (.invokevirtual 53, 3) := by decide +kernel
theorem dX2_lifeOf_66 : decode cX2_lifeOf 66 = .ok (.aload 4, 2) := by decide +kernel
theorem dX2_lifeOf_68 : decode cX2_lifeOf 68 = .ok (.getfield 46, 3) := by decide +kernel
theorem dX2_lifeOf_71 : decode cX2_lifeOf 71 = .ok (.if_icmp .ne 11, 3) := by decide +kernel
theorem dX2_lifeOf_74 : decode cX2_lifeOf 74 = .ok (.aload 4, 2) := by decide +kernel
theorem dX2_lifeOf_76 : decode cX2_lifeOf 76 = .ok (.getfield 50, 3) := by decide +kernel
theorem dX2_lifeOf_79 : decode cX2_lifeOf 79 = .ok (.goto 4, 3) := by decide +kernel
theorem dX2_lifeOf_82 : decode cX2_lifeOf 82 = .ok (.iconst 0, 1) := by decide +kernel
theorem dX2_lifeOf_83 : decode cX2_lifeOf 83 = .ok (.iadd, 1) := by decide +kernel
theorem dX2_lifeOf_84 : decode cX2_lifeOf 84 = .ok (.istore_n 2, 1) := by decide +kernel
theorem dX2_lifeOf_85 : decode cX2_lifeOf 85 = .ok (.goto 30, 3) := by decide +kernel
theorem dX2_lifeOf_88 : decode cX2_lifeOf 88 = .ok (.aload_n 0, 1) := by decide +kernel
theorem dX2_lifeOf_89 : decode cX2_lifeOf 89 = .ok (.aload 4, 2) := by decide +kernel
theorem dX2_lifeOf_91 : decode cX2_lifeOf 91 = .ok (.getfield 46, 3) := by decide +kernel
theorem dX2_lifeOf_94 : decode cX2_lifeOf 94 = .ok (.invokevirtual 57, 3) := by decide +kernel
theorem dX2_lifeOf_97 : decode cX2_lifeOf 97 = .ok (.ifCond .eq 18, 3) := by decide +kernel
theorem dX2_lifeOf_100 : decode cX2_lifeOf 100 = .ok (.aload_n 0, 1) := by decide +kernel
theorem dX2_lifeOf_101 : decode cX2_lifeOf 101 = .ok (.getfield 18, 3) := by decide +kernel
theorem dX2_lifeOf_104 : decode cX2_lifeOf 104 = .ok (.aload 4, 2) := by decide +kernel
theorem dX2_lifeOf_106 : decode cX2_lifeOf 106 = .ok (.getfield 46, 3) := by decide +kernel
theorem dX2_lifeOf_109 : decode cX2_lifeOf 109 = .ok (.aload 4, 2) := by decide +kernel
theorem dX2_lifeOf_111 : decode cX2_lifeOf 111 = .ok (.getfield 61, 3) := by decide +kernel
theorem dX2_lifeOf_114 : decode cX2_lifeOf 114 = .ok (.iastore, 1) := by decide +kernel
theorem dX2_lifeOf_115 : decode cX2_lifeOf 115 = .ok (.iinc 3 1, 3) := by decide +kernel
theorem dX2_lifeOf_118 : decode cX2_lifeOf 118 = .ok (.goto (-90), 3) := by decide +kernel
theorem dX2_lifeOf_121 : decode cX2_lifeOf 121 = .ok (.iload_n 2, 1) := by decide +kernel
theorem dX2_lifeOf_122 : decode cX2_lifeOf 122 = .ok (.ireturn, 1) := by decide +kernel
theorem dX2_topThen_0 : decode cX2_topThen 0 = .ok (.iload_n 1, 1) := by decide +kernel
theorem dX2_topThen_1 : decode cX2_topThen 1 = .ok (.istore_n 2, 1) := by decide +kernel
theorem dX2_topThen_2 : decode cX2_topThen 2 = .ok (.iconst 0, 1) := by decide +kernel
theorem dX2_topThen_3 : decode cX2_topThen 3 = .ok (.istore_n 3, 1) := by decide +kernel
theorem dX2_topThen_4 : decode cX2_topThen 4 = .ok (.iload_n 3, 1) := by decide +kernel
theorem dX2_topThen_5 : decode cX2_topThen 5 = .ok (.iconst 4, 1) := by decide +kernel
theorem dX2_topThen_6 : decode cX2_topThen 6 = .ok (.if_icmp .gt 33, 3) := by decide +kernel
theorem dX2_topThen_9 : decode cX2_topThen 9 = .ok (.aload_n 0, 1) := by decide +kernel
theorem dX2_topThen_10 : decode cX2_topThen 10 = .ok (.iload_n 2, 1) := by decide +kernel
theorem dX2_topThen_11 : decode cX2_topThen 11 = .ok (.invokevirtual 57, 3) := by decide +kernel
theorem dX2_topThen_14 : decode cX2_topThen 14 = .ok (.ifCond .eq 25, 3) := by decide +kernel
theorem dX2_topThen_17 : decode cX2_topThen 17 = .ok (.aload_n 0, 1) := by decide +kernel
theorem dX2_topThen_18 : decode cX2_topThen 18 = .ok (.getfield 18, 3) := by decide +kernel
theorem dX2_topThen_21 : decode cX2_topThen 21 = .ok (.iload_n 2, 1) := by decide +kernel
theorem dX2_topThen_22 : decode cX2_topThen 22 = .ok (.iaload, 1) := by decide +kernel
theorem dX2_topThen_23 : decode cX2_topThen 23 = .ok (.ifCond .lt 16, 3) := by decide +kernel
theorem dX2_topThen_26 : decode cX2_topThen 26 = .ok (.aload_n 0, 1) := by decide +kernel
theorem dX2_topThen_27 : decode cX2_topThen 27 = .ok (.getfield 18, 3) := by decide +kernel
theorem dX2_topThen_30 : decode cX2_topThen 30 = .ok (.iload_n 2, 1) := by decide +kernel
theorem dX2_topThen_31 : decode cX2_topThen 31 = .ok (.iaload, 1) := by decide +kernel
theorem dX2_topThen_32 : decode cX2_topThen 32 = .ok (.istore_n 2, 1) := by decide +kernel
theorem dX2_topThen_33 : decode cX2_topThen 33 = .ok (.iinc 3 1, 3) := by decide +kernel
theorem dX2_topThen_36 : decode cX2_topThen 36 = .ok (.goto (-32), 3) := by decide +kernel
theorem dX2_topThen_39 : decode cX2_topThen 39 = .ok (.iload_n 2, 1) := by decide +kernel
theorem dX2_topThen_40 : decode cX2_topThen 40 = .ok (.ireturn, 1) := by decide +kernel
theorem dX2_isPart_0 : decode cX2_isPart 0 = .ok (.iload_n 1, 1) := by decide +kernel
theorem dX2_isPart_1 : decode cX2_isPart 1 = .ok (.ifCond .lt 16, 3) := by decide +kernel
theorem dX2_isPart_4 : decode cX2_isPart 4 = .ok (.iload_n 1, 1) := by decide +kernel
theorem dX2_isPart_5 : decode cX2_isPart 5 = .ok (.aload_n 0, 1) := by decide +kernel
theorem dX2_isPart_6 : decode cX2_isPart 6 = .ok (.getfield 18, 3) := by decide +kernel
theorem dX2_isPart_9 : decode cX2_isPart 9 = .ok (.arraylength, 1) := by decide +kernel
theorem dX2_isPart_10 : decode cX2_isPart 10 = .ok (.if_icmp .ge 7, 3) := by decide +kernel
theorem dX2_isPart_13 : decode cX2_isPart 13 = .ok (.iconst 1, 1) := by decide +kernel
theorem dX2_isPart_14 : decode cX2_isPart 14 = .ok (.goto 4, 3) := by decide +kernel
theorem dX2_isPart_17 : decode cX2_isPart 17 = .ok (.iconst 0, 1) := by decide +kernel
theorem dX2_isPart_18 : decode cX2_isPart 18 = .ok (.ireturn, 1) := by decide +kernel
theorem dX3_init_0 : decode cX3_init 0 = .ok (.aload_n 0, 1) := by decide +kernel
theorem dX3_init_1 : decode cX3_init 1 = .ok (.invokespecial 3, 3) := by decide +kernel
theorem dX3_init_4 : decode cX3_init 4 = .ok (.aload_n 0, 1) := by decide +kernel
theorem dX3_init_5 : decode cX3_init 5 = .ok (.iconst (-1), 1) := by decide +kernel
theorem dX3_init_6 : decode cX3_init 6 = .ok (.putfield 9, 3) := by decide +kernel
theorem dX3_init_9 : decode cX3_init 9 = .ok (.aload_n 0, 1) := by decide +kernel
theorem dX3_init_10 : decode cX3_init 10 = .ok (.iload_n 1, 1) := by decide +kernel
theorem dX3_init_11 : decode cX3_init 11 = .ok (.putfield 15, 3) := by decide +kernel
theorem dX3_init_14 : decode cX3_init 14 = .ok (.aload_n 0, 1) := by decide +kernel
theorem dX3_init_15 : decode cX3_init 15 = .ok (.iload_n 2, 1) := by decide +kernel
theorem dX3_init_16 : decode cX3_init 16 = .ok (.putfield 18, 3) := by decide +kernel
theorem dX3_init_19 : decode cX3_init 19 = .ok (.aload_n 0, 1) := by decide +kernel
theorem dX3_init_20 : decode cX3_init 20 = .ok (.iload_n 3, 1) := by decide +kernel
theorem dX3_init_21 : decode cX3_init 21 = .ok (.putfield 21, 3) := by decide +kernel
theorem dX3_init_24 : decode cX3_init 24 = .ok (.aload_n 0, 1) := by decide +kernel
theorem dX3_init_25 : decode cX3_init 25 = .ok (.iload 4, 2) := by decide +kernel
theorem dX3_init_27 : decode cX3_init 27 = .ok (.putfield 24, 3) := by decide +kernel
theorem dX3_init_30 : decode cX3_init 30 = .ok (.aload_n 0, 1) := by decide +kernel
theorem dX3_init_31 : decode cX3_init 31 = .ok (.aload 5, 2) := by decide +kernel
theorem dX3_init_33 : decode cX3_init 33 = .ok (.putfield 27, 3) := by decide +kernel
theorem dX3_init_36 : decode cX3_init 36 = .ok (.aload_n 0, 1) := by decide +kernel
theorem dX3_init_37 : decode cX3_init 37 = .ok (.iload_n 2, 1) := by decide +kernel
theorem dX3_init_38 : decode cX3_init 38 = .ok (.iconst 3, 1) := by decide +kernel
theorem dX3_init_39 : decode cX3_init 39 = .ok (.if_icmp .ne 13, 3) := by decide +kernel
theorem dX3_init_42 : decode cX3_init 42 = .ok (.new 31, 3) := by decide +kernel
theorem dX3_init_45 : decode cX3_init 45 = .ok (.dup, 1) := by decide +kernel
theorem dX3_init_46 : decode cX3_init 46 = .ok (.invokespecial 33, 3) := by decide +kernel
theorem dX3_init_49 : decode cX3_init 49 = .ok (.goto 4, 3) := by decide +kernel
theorem dX3_init_52 : decode cX3_init 52 = .ok (.aconst_null, 1) := by decide +kernel
theorem dX3_init_53 : decode cX3_init 53 = .ok (.putfield 34, 3) := by decide +kernel
theorem dX3_init_56 : decode cX3_init 56 = .ok (.return_, 1) := by decide +kernel
theorem dX3_whereabouts_0 : decode cX3_whereabouts 0 = .ok (.aload_n 0, 1) := by decide +kernel
theorem dX3_whereabouts_1 : decode cX3_whereabouts 1 = .ok (.getfield 38, 3) := by decide +kernel
theorem dX3_whereabouts_4 : decode cX3_whereabouts 4 = .ok (.ifnull 11, 3) := by decide +kernel
theorem dX3_whereabouts_7 : decode cX3_whereabouts 7 = .ok (.aload_n 0, 1) := by decide +kernel
theorem dX3_whereabouts_8 : decode cX3_whereabouts 8 = .ok (.getfield 38, 3) := by decide +kernel
theorem dX3_whereabouts_11 : decode cX3_whereabouts 11 = .ok (.getfield 15, 3) := by decide +kernel
theorem dX3_whereabouts_14 : decode cX3_whereabouts 14 = .ok (.ireturn, 1) := by decide +kernel
theorem dX3_whereabouts_15 : decode cX3_whereabouts 15 = .ok (.aload_n 0, 1) := by decide +kernel
theorem dX3_whereabouts_16 : decode cX3_whereabouts 16 = .ok (.getfield 42, 3) := by decide +kernel
theorem dX3_whereabouts_19 : decode cX3_whereabouts 19 = .ok (.ifCond .eq 8, 3) := by decide +kernel
theorem dX3_whereabouts_22 : decode cX3_whereabouts 22 = .ok (.bipush (-2), 2) := by decide +kernel
theorem dX3_whereabouts_24 : decode cX3_whereabouts 24 = .ok (.goto 4, 3) := by decide +kernel
theorem dX3_whereabouts_27 : decode cX3_whereabouts 27 = .ok (.iconst (-1), 1) := by decide +kernel
theorem dX3_whereabouts_28 : decode cX3_whereabouts 28 = .ok (.ireturn, 1) := by decide +kernel
theorem dX3_isInStore_0 : decode cX3_isInStore 0 = .ok (.aload_n 0, 1) := by decide +kernel
theorem dX3_isInStore_1 : decode cX3_isInStore 1 = .ok (.getfield 38, 3) := by decide +kernel
theorem dX3_isInStore_4 : decode cX3_isInStore 4 = .ok (.ifnonnull 14, 3) := by decide +kernel
theorem dX3_isInStore_7 : decode cX3_isInStore 7 = .ok (.aload_n 0, 1) := by decide +kernel
theorem dX3_isInStore_8 : decode cX3_isInStore 8 = .ok (.getfield 42, 3) := by decide +kernel
theorem dX3_isInStore_11 : decode cX3_isInStore 11 = .ok (.ifCond .ne 7, 3) := by decide +kernel
theorem dX3_isInStore_14 : decode cX3_isInStore 14 = .ok (.iconst 1, 1) := by decide +kernel
theorem dX3_isInStore_15 : decode cX3_isInStore 15 = .ok (.goto 4, 3) := by decide +kernel
theorem dX3_isInStore_18 : decode cX3_isInStore 18 = .ok (.iconst 0, 1) := by decide +kernel
theorem dX3_isInStore_19 : decode cX3_isInStore 19 = .ok (.ireturn, 1) := by decide +kernel
theorem dX3_top_0 : decode cX3_top 0 = .ok (.aload_n 0, 1) := by decide +kernel
theorem dX3_top_1 : decode cX3_top 1 = .ok (.astore_n 1, 1) := by decide +kernel
theorem dX3_top_2 : decode cX3_top 2 = .ok (.iconst 0, 1) := by decide +kernel
theorem dX3_top_3 : decode cX3_top 3 = .ok (.istore_n 2, 1) := by decide +kernel
theorem dX3_top_4 : decode cX3_top 4 = .ok (.iload_n 2, 1) := by decide +kernel
theorem dX3_top_5 : decode cX3_top 5 = .ok (.iconst 4, 1) := by decide +kernel
theorem dX3_top_6 : decode cX3_top 6 = .ok (.if_icmp .gt 21, 3) := by decide +kernel
theorem dX3_top_9 : decode cX3_top 9 = .ok (.aload_n 1, 1) := by decide +kernel
theorem dX3_top_10 : decode cX3_top 10 = .ok (.getfield 38, 3) := by decide +kernel
theorem dX3_top_13 : decode cX3_top 13 = .ok (.ifnull 14, 3) := by decide +kernel
theorem dX3_top_16 : decode cX3_top 16 = .ok (.aload_n 1, 1) := by decide +kernel
theorem dX3_top_17 : decode cX3_top 17 = .ok (.getfield 38, 3) := by decide +kernel
theorem dX3_top_20 : decode cX3_top 20 = .ok (.astore_n 1, 1) := by decide +kernel
theorem dX3_top_21 : decode cX3_top 21 = .ok (.iinc 2 1, 3) := by decide +kernel
theorem dX3_top_24 : decode cX3_top 24 = .ok (.goto (-20), 3) := by decide +kernel
theorem dX3_top_27 : decode cX3_top 27 = .ok (.aload_n 1, 1) := by decide +kernel
theorem dX3_top_28 : decode cX3_top 28 = .ok (.areturn, 1) := by decide +kernel
theorem dX3_isWithin_0 : decode cX3_isWithin 0 = .ok (.aload_n 0, 1) := by decide +kernel
theorem dX3_isWithin_1 : decode cX3_isWithin 1 = .ok (.getfield 38, 3) := by decide +kernel
theorem dX3_isWithin_4 : decode cX3_isWithin 4 = .ok (.astore_n 2, 1) := by decide +kernel
theorem dX3_isWithin_5 : decode cX3_isWithin 5 = .ok (.iconst 0, 1) := by decide +kernel
theorem dX3_isWithin_6 : decode cX3_isWithin 6 = .ok (.istore_n 3, 1) := by decide +kernel
theorem dX3_isWithin_7 : decode cX3_isWithin 7 = .ok (.iload_n 3, 1) := by decide +kernel
theorem dX3_isWithin_8 : decode cX3_isWithin 8 = .ok (.iconst 4, 1) := by decide +kernel
theorem dX3_isWithin_9 : decode cX3_isWithin 9 = .ok (.if_icmp .gt 25, 3) := by decide +kernel
theorem dX3_isWithin_12 : decode cX3_isWithin 12 = .ok (.aload_n 2, 1) := by decide +kernel
theorem dX3_isWithin_13 : decode cX3_isWithin 13 = .ok (.ifnull 21, 3) := by decide +kernel
theorem dX3_isWithin_16 : decode cX3_isWithin 16 = .ok (.aload_n 2, 1) := by decide +kernel
theorem dX3_isWithin_17 : decode cX3_isWithin 17 = .ok (.aload_n 1, 1) := by decide +kernel
theorem dX3_isWithin_18 : decode cX3_isWithin 18 = .ok (.if_acmp .ne 5, 3) := by decide +kernel
theorem dX3_isWithin_21 : decode cX3_isWithin 21 = .ok (.iconst 1, 1) := by decide +kernel
theorem dX3_isWithin_22 : decode cX3_isWithin 22 = .ok (.ireturn, 1) := by decide +kernel
theorem dX3_isWithin_23 : decode cX3_isWithin 23 = .ok (.aload_n 2, 1) := by decide +kernel
theorem dX3_isWithin_24 : decode cX3_isWithin 24 = .ok (.getfield 38, 3) := by decide +kernel
theorem dX3_isWithin_27 : decode cX3_isWithin 27 = .ok (.astore_n 2, 1) := by decide +kernel
theorem dX3_isWithin_28 : decode cX3_isWithin 28 = .ok (.iinc 3 1, 3) := by decide +kernel
theorem dX3_isWithin_31 : decode cX3_isWithin 31 = .ok (.goto (-24), 3) := by decide +kernel
theorem dX3_isWithin_34 : decode cX3_isWithin 34 = .ok (.iconst 0, 1) := by decide +kernel
theorem dX3_isWithin_35 : decode cX3_isWithin 35 = .ok (.ireturn, 1) := by decide +kernel
theorem dX3_isBound_0 : decode cX3_isBound 0 = .ok (.aload_n 0, 1) := by decide +kernel
theorem dX3_isBound_1 : decode cX3_isBound 1 = .ok (.invokevirtual 46, 3) := by decide +kernel
theorem dX3_isBound_4 : decode cX3_isBound 4 = .ok (.getfield 9, 3) := by decide +kernel
theorem dX3_isBound_7 : decode cX3_isBound 7 = .ok (.iconst (-1), 1) := by decide +kernel
theorem dX3_isBound_8 : decode cX3_isBound 8 = .ok (.if_icmp .eq 7, 3) := by decide +kernel
theorem dX3_isBound_11 : decode cX3_isBound 11 = .ok (.iconst 1, 1) := by decide +kernel
theorem dX3_isBound_12 : decode cX3_isBound 12 = .ok (.goto 4, 3) := by decide +kernel
theorem dX3_isBound_15 : decode cX3_isBound 15 = .ok (.iconst 0, 1) := by decide +kernel
theorem dX3_isBound_16 : decode cX3_isBound 16 = .ok (.ireturn, 1) := by decide +kernel
theorem dX3_mayBeExamined_0 : decode cX3_mayBeExamined 0 = .ok (.aload_n 0, 1) := by decide +kernel
theorem dX3_mayBeExamined_1 : decode cX3_mayBeExamined 1 = .ok (.getfield 27, 3) := by decide +kernel
theorem dX3_mayBeExamined_4 : decode cX3_mayBeExamined 4 = .ok (.getfield 50, 3) := by decide +kernel
theorem dX3_mayBeExamined_7 : decode cX3_mayBeExamined 7 = .ok (.ifCond .le 29, 3) := by decide +kernel
theorem dX3_mayBeExamined_10 : decode cX3_mayBeExamined 10 = .ok (.aload_n 0, 1) := by decide +kernel
theorem dX3_mayBeExamined_11 : decode cX3_mayBeExamined 11 = .ok (.getfield 55, 3) := by decide +kernel
theorem dX3_mayBeExamined_14 : decode cX3_mayBeExamined 14 = .ok (.aload_n 0, 1) := by decide +kernel
theorem dX3_mayBeExamined_15 : decode cX3_mayBeExamined 15 = .ok (.getfield 27, 3) := by decide +kernel
theorem dX3_mayBeExamined_18 : decode cX3_mayBeExamined 18 = .ok (.getfield 50, 3) := by decide +kernel
theorem dX3_mayBeExamined_21 : decode cX3_mayBeExamined 21 = .ok (.aload_n 0, 1) := by decide +kernel
theorem dX3_mayBeExamined_22 : decode cX3_mayBeExamined 22 = .ok (.getfield 27, 3) := by decide +kernel
theorem dX3_mayBeExamined_25 : decode cX3_mayBeExamined 25 = .ok (.getfield 58, 3) := by decide +kernel
theorem dX3_mayBeExamined_28 : decode cX3_mayBeExamined 28 = .ok (.isub, 1) := by decide +kernel
theorem dX3_mayBeExamined_29 : decode cX3_mayBeExamined 29 = .ok (.if_icmp .lt 7, 3) := by decide +kernel
theorem dX3_mayBeExamined_32 : decode cX3_mayBeExamined 32 = .ok (.iconst 1, 1) := by decide +kernel
theorem dX3_mayBeExamined_33 : decode cX3_mayBeExamined 33 = .ok (.goto 4, 3) := by decide +kernel
theorem dX3_mayBeExamined_36 : decode cX3_mayBeExamined 36 = .ok (.iconst 0, 1) := by decide +kernel
theorem dX3_mayBeExamined_37 : decode cX3_mayBeExamined 37 = .ok (.ireturn, 1) := by decide +kernel
theorem dX3_isExaminationDue_0 : decode cX3_isExaminationDue 0 = .ok (.aload_n 0, 1) := by decide +kernel
theorem dX3_isExaminationDue_1 : decode cX3_isExaminationDue 1 = .ok (.getfield 27, 3) := by decide +kernel
theorem dX3_isExaminationDue_4 : decode cX3_isExaminationDue 4 = .ok (.getfield 50, 3) := by decide +kernel
theorem dX3_isExaminationDue_7 : decode cX3_isExaminationDue 7 = .ok (.ifCond .le 26, 3) := by decide +kernel
theorem dX3_isExaminationDue_10 : decode cX3_isExaminationDue 10 = .ok (.aload_n 0, 1) := by decide +kernel
theorem dX3_isExaminationDue_11 : decode cX3_isExaminationDue 11 = .ok (.getfield 55, 3) := by decide +kernel
theorem dX3_isExaminationDue_14 : decode cX3_isExaminationDue 14 = .ok (.aload_n 0, 1) := by decide +kernel
theorem dX3_isExaminationDue_15 : decode cX3_isExaminationDue 15 = .ok (.getfield 27, 3) := by decide +kernel
theorem dX3_isExaminationDue_18 : decode cX3_isExaminationDue 18 = .ok (.getfield 50, 3) := by decide +kernel
theorem dX3_isExaminationDue_21 : decode cX3_isExaminationDue 21 = .ok (.aload_n 0, 1) := by decide +kernel
theorem dX3_isExaminationDue_22 : decode cX3_isExaminationDue 22 = .ok (.getfield 61, 3) := by decide +kernel
theorem dX3_isExaminationDue_25 : decode cX3_isExaminationDue 25 = .ok (.iadd, 1) := by decide +kernel
theorem dX3_isExaminationDue_26 : decode cX3_isExaminationDue 26 = .ok (.if_icmp .le 7, 3) := by decide +kernel
theorem dX3_isExaminationDue_29 : decode cX3_isExaminationDue 29 = .ok (.iconst 1, 1) := by decide +kernel
theorem dX3_isExaminationDue_30 : decode cX3_isExaminationDue 30 = .ok (.goto 4, 3) := by decide +kernel
theorem dX3_isExaminationDue_33 : decode cX3_isExaminationDue 33 = .ok (.iconst 0, 1) := by decide +kernel
theorem dX3_isExaminationDue_34 : decode cX3_isExaminationDue 34 = .ok (.ireturn, 1) := by decide +kernel
theorem dX3_runs_0 : decode cX3_runs 0 = .ok (.aload_n 0, 1) := by decide +kernel
theorem dX3_runs_1 : decode cX3_runs 1 = .ok (.getfield 64, 3) := by decide +kernel
theorem dX3_runs_4 : decode cX3_runs 4 = .ok (.istore_n 3, 1) := by decide +kernel
theorem dX3_runs_5 : decode cX3_runs 5 = .ok (.aload_n 0, 1) := by decide +kernel
theorem dX3_runs_6 : decode cX3_runs 6 = .ok (.dup, 1) := by decide +kernel
theorem dX3_runs_7 : decode cX3_runs 7 = .ok (.getfield 64, 3) := by decide +kernel
theorem dX3_runs_10 : decode cX3_runs 10 = .ok (.iload_n 1, 1) := by decide +kernel
theorem dX3_runs_11 : decode cX3_runs 11 = .ok (.iadd, 1) := by decide +kernel
theorem dX3_runs_12 : decode cX3_runs 12 = .ok (.putfield 64, 3) := by decide +kernel
theorem dX3_runs_15 : decode cX3_runs 15 = .ok (.aload_n 0, 1) := by decide +kernel
theorem dX3_runs_16 : decode cX3_runs 16 = .ok (.dup, 1) := by decide +kernel
theorem dX3_runs_17 : decode cX3_runs 17 = .ok (.getfield 55, 3) := by decide +kernel
theorem dX3_runs_20 : decode cX3_runs 20 = .ok (.iload_n 1, 1) := by decide +kernel
theorem dX3_runs_21 : decode cX3_runs 21 = .ok (.iadd, 1) := by decide +kernel
theorem dX3_runs_22 : decode cX3_runs 22 = .ok (.putfield 55, 3) := by decide +kernel
theorem dX3_runs_25 : decode cX3_runs 25 = .ok (.aload_n 0, 1) := by decide +kernel
theorem dX3_runs_26 : decode cX3_runs 26 = .ok (.getfield 34, 3) := by decide +kernel
theorem dX3_runs_29 : decode cX3_runs 29 = .ok (.ifnull 23, 3) := by decide +kernel
theorem dX3_runs_32 : decode cX3_runs 32 = .ok (.aload_n 0, 1) := by decide +kernel
theorem dX3_runs_33 : decode cX3_runs 33 = .ok (.getfield 34, 3) := by decide +kernel
theorem dX3_runs_36 : decode cX3_runs 36 = .ok (.aload_n 0, 1) := by decide +kernel
theorem dX3_runs_37 : decode cX3_runs 37 = .ok (.getfield 64, 3) := by decide +kernel
theorem dX3_runs_40 : decode cX3_runs 40 = .ok (.bipush 100, 2) := by decide +kernel
theorem dX3_runs_42 : decode cX3_runs 42 = .ok (.idiv, 1) := by decide +kernel
theorem dX3_runs_43 : decode cX3_runs 43 = .ok (.iload_n 3, 1) := by decide +kernel
theorem dX3_runs_44 : decode cX3_runs 44 = .ok (.bipush 100, 2) := by decide +kernel
theorem dX3_runs_46 : decode cX3_runs 46 = .ok (.idiv, 1) := by decide +kernel
theorem dX3_runs_47 : decode cX3_runs 47 = .ok (.isub, 1) := by decide +kernel
theorem dX3_runs_48 : decode cX3_runs 48 = .ok (.iload_n 2, 1) := by decide +kernel
theorem dX3_runs_49 : decode cX3_runs 49 = .ok (.invokevirtual 67, 3) := by decide +kernel
theorem dX3_runs_52 : decode cX3_runs 52 = .ok (.aload_n 0, 1) := by decide +kernel
theorem dX3_runs_53 : decode cX3_runs 53 = .ok (.getfield 71, 3) := by decide +kernel
theorem dX3_runs_56 : decode cX3_runs 56 = .ok (.ifCond .le 31, 3) := by decide +kernel
theorem dX3_runs_59 : decode cX3_runs 59 = .ok (.aload_n 0, 1) := by decide +kernel
theorem dX3_runs_60 : decode cX3_runs 60 = .ok (.aload_n 0, 1) := by decide +kernel
theorem dX3_runs_61 : decode cX3_runs 61 = .ok (.getfield 64, 3) := by decide +kernel
theorem dX3_runs_64 : decode cX3_runs 64 = .ok (.aload_n 0, 1) := by decide +kernel
theorem dX3_runs_65 : decode cX3_runs 65 = .ok (.getfield 74, 3) := by decide +kernel
theorem dX3_runs_68 : decode cX3_runs 68 = .ok (.isub, 1) := by decide +kernel
theorem dX3_runs_69 : decode cX3_runs 69 = .ok (.sipush 500, 3) := by decide +kernel
theorem dX3_runs_72 : decode cX3_runs 72 = .ok (.idiv, 1) := by decide +kernel
theorem dX3_runs_73 : decode cX3_runs 73 = .ok (.iload_n 3, 1) := by decide +kernel
theorem dX3_runs_74 : decode cX3_runs 74 = .ok (.aload_n 0, 1) := by decide +kernel
theorem dX3_runs_75 : decode cX3_runs 75 = .ok (.getfield 74, 3) := by decide +kernel
theorem dX3_runs_78 : decode cX3_runs 78 = .ok (.isub, 1) := by decide +kernel
theorem dX3_runs_79 : decode cX3_runs 79 = .ok (.sipush 500, 3) := by decide +kernel
theorem dX3_runs_82 : decode cX3_runs 82 = .ok (.idiv, 1) := by decide +kernel
theorem dX3_runs_83 : decode cX3_runs 83 = .ok (.isub, 1) := by decide +kernel
theorem dX3_runs_84 : decode cX3_runs 84 = .ok (.invokevirtual 77, 3) := by decide +kernel
theorem dX3_runs_87 : decode cX3_runs 87 = .ok (.return_, 1) := by decide +kernel
theorem dX3_growFlaw_0 : decode cX3_growFlaw 0 = .ok (.iconst 0, 1) := by decide +kernel
theorem dX3_growFlaw_1 : decode cX3_growFlaw 1 = .ok (.istore_n 2, 1) := by decide +kernel
theorem dX3_growFlaw_2 : decode cX3_growFlaw 2 = .ok (.iload_n 2, 1) := by decide +kernel
theorem dX3_growFlaw_3 : decode cX3_growFlaw 3 = .ok (.iload_n 1, 1) := by decide +kernel
theorem dX3_growFlaw_4 : decode cX3_growFlaw 4 = .ok (.if_icmp .ge 27, 3) := by decide +kernel
theorem dX3_growFlaw_7 : decode cX3_growFlaw 7 = .ok (.aload_n 0, 1) := by decide +kernel
theorem dX3_growFlaw_8 : decode cX3_growFlaw 8 = .ok (.dup, 1) := by decide +kernel
theorem dX3_growFlaw_9 : decode cX3_growFlaw 9 = .ok (.getfield 71, 3) := by decide +kernel
theorem dX3_growFlaw_12 : decode cX3_growFlaw 12 = .ok (.iconst 1, 1) := by decide +kernel
theorem dX3_growFlaw_13 : decode cX3_growFlaw 13 = .ok (.aload_n 0, 1) := by decide +kernel
theorem dX3_growFlaw_14 : decode cX3_growFlaw 14 = .ok (.getfield 71, 3) := by decide +kernel
theorem dX3_growFlaw_17 : decode cX3_growFlaw 17 = .ok (.bipush 10, 2) := by decide +kernel
theorem dX3_growFlaw_19 : decode cX3_growFlaw 19 = .ok (.idiv, 1) := by decide +kernel
theorem dX3_growFlaw_20 : decode cX3_growFlaw 20 = .ok (.iadd, 1) := by decide +kernel
theorem dX3_growFlaw_21 : decode cX3_growFlaw 21 = .ok (.iadd, 1) := by decide +kernel
theorem dX3_growFlaw_22 : decode cX3_growFlaw 22 = .ok (.putfield 71, 3) := by decide +kernel
theorem dX3_growFlaw_25 : decode cX3_growFlaw 25 = .ok (.iinc 2 1, 3) := by decide +kernel
theorem dX3_growFlaw_28 : decode cX3_growFlaw 28 = .ok (.goto (-26), 3) := by decide +kernel
theorem dX3_growFlaw_31 : decode cX3_growFlaw 31 = .ok (.return_, 1) := by decide +kernel
theorem dX4_init_0 : decode cX4_init 0 = .ok (.aload_n 0, 1) := by decide +kernel
theorem dX4_init_1 : decode cX4_init 1 = .ok (.invokespecial 3, 3) := by decide +kernel
theorem dX4_init_4 : decode cX4_init 4 = .ok (.aload_n 0, 1) := by decide +kernel
theorem dX4_init_5 : decode cX4_init 5 = .ok (.sipush 9000, 3) := by decide +kernel
theorem dX4_init_8 : decode cX4_init 8 = .ok (.putfield 9, 3) := by decide +kernel
theorem dX4_init_11 : decode cX4_init 11 = .ok (.aload_n 0, 1) := by decide +kernel
theorem dX4_init_12 : decode cX4_init 12 = .ok (.sipush 300, 3) := by decide +kernel
theorem dX4_init_15 : decode cX4_init 15 = .ok (.putfield 15, 3) := by decide +kernel
theorem dX4_init_18 : decode cX4_init 18 = .ok (.aload_n 0, 1) := by decide +kernel
theorem dX4_init_19 : decode cX4_init 19 = .ok (.iconst (-1), 1) := by decide +kernel
theorem dX4_init_20 : decode cX4_init 20 = .ok (.putfield 18, 3) := by decide +kernel
theorem dX4_init_23 : decode cX4_init 23 = .ok (.return_, 1) := by decide +kernel
theorem dX4_wear_0 : decode cX4_wear 0 = .ok (.aload_n 0, 1) := by decide +kernel
theorem dX4_wear_1 : decode cX4_wear 1 = .ok (.dup, 1) := by decide +kernel
theorem dX4_wear_2 : decode cX4_wear 2 = .ok (.getfield 9, 3) := by decide +kernel
theorem dX4_wear_5 : decode cX4_wear 5 = .ok (.iload_n 1, 1) := by decide +kernel
theorem dX4_wear_6 : decode cX4_wear 6 = .ok (.isub, 1) := by decide +kernel
theorem dX4_wear_7 : decode cX4_wear 7 = .ok (.putfield 9, 3) := by decide +kernel
theorem dX4_wear_10 : decode cX4_wear 10 = .ok (.aload_n 0, 1) := by decide +kernel
theorem dX4_wear_11 : decode cX4_wear 11 = .ok (.dup, 1) := by decide +kernel
theorem dX4_wear_12 : decode cX4_wear 12 = .ok (.getfield 15, 3) := by decide +kernel
theorem dX4_wear_15 : decode cX4_wear 15 = .ok (.aload_n 0, 1) := by decide +kernel
theorem dX4_wear_16 : decode cX4_wear 16 = .ok (.getfield 21, 3) := by decide +kernel
theorem dX4_wear_19 : decode cX4_wear 19 = .ok (.sipush 200, 3) := by decide +kernel
theorem dX4_wear_22 : decode cX4_wear 22 = .ok (.idiv, 1) := by decide +kernel
theorem dX4_wear_23 : decode cX4_wear 23 = .ok (.iadd, 1) := by decide +kernel
theorem dX4_wear_24 : decode cX4_wear 24 = .ok (.putfield 15, 3) := by decide +kernel
theorem dX4_wear_27 : decode cX4_wear 27 = .ok (.aload_n 0, 1) := by decide +kernel
theorem dX4_wear_28 : decode cX4_wear 28 = .ok (.dup, 1) := by decide +kernel
theorem dX4_wear_29 : decode cX4_wear 29 = .ok (.getfield 21, 3) := by decide +kernel
theorem dX4_wear_32 : decode cX4_wear 32 = .ok (.iload_n 2, 1) := by decide +kernel
theorem dX4_wear_33 : decode cX4_wear 33 = .ok (.iadd, 1) := by decide +kernel
theorem dX4_wear_34 : decode cX4_wear 34 = .ok (.putfield 21, 3) := by decide +kernel
theorem dX4_wear_37 : decode cX4_wear 37 = .ok (.aload_n 0, 1) := by decide +kernel
theorem dX4_wear_38 : decode cX4_wear 38 = .ok (.dup, 1) := by decide +kernel
theorem dX4_wear_39 : decode cX4_wear 39 = .ok (.getfield 15, 3) := by decide +kernel
theorem dX4_wear_42 : decode cX4_wear 42 = .ok (.aload_n 0, 1) := by decide +kernel
theorem dX4_wear_43 : decode cX4_wear 43 = .ok (.getfield 21, 3) := by decide +kernel
theorem dX4_wear_46 : decode cX4_wear 46 = .ok (.sipush 200, 3) := by decide +kernel
theorem dX4_wear_49 : decode cX4_wear 49 = .ok (.idiv, 1) := by decide +kernel
theorem dX4_wear_50 : decode cX4_wear 50 = .ok (.isub, 1) := by decide +kernel
theorem dX4_wear_51 : decode cX4_wear 51 = .ok (.putfield 15, 3) := by decide +kernel
theorem dX4_wear_54 : decode cX4_wear 54 = .ok (.return_, 1) := by decide +kernel
theorem dX4_renewFlange_0 : decode cX4_renewFlange 0 = .ok (.aload_n 0, 1) := by decide +kernel
theorem dX4_renewFlange_1 : decode cX4_renewFlange 1 = .ok (.dup, 1) := by decide +kernel
theorem dX4_renewFlange_2 : decode cX4_renewFlange 2 = .ok (.getfield 9, 3) := by decide +kernel
theorem dX4_renewFlange_5 : decode cX4_renewFlange 5 = .ok (.iconst 2, 1) := by decide +kernel
theorem dX4_renewFlange_6 : decode cX4_renewFlange 6 = .ok (.sipush 300, 3) := by decide +kernel
theorem dX4_renewFlange_9 : decode cX4_renewFlange 9 = .ok (.aload_n 0, 1) := by decide +kernel
theorem dX4_renewFlange_10 : decode cX4_renewFlange 10 = .ok (.getfield 15, 3) := by decide +kernel
theorem dX4_renewFlange_13 : decode cX4_renewFlange 13 = .ok (.isub, 1) := by decide +kernel
theorem dX4_renewFlange_14 : decode cX4_renewFlange 14 = .ok (.imul, 1) := by decide +kernel
theorem dX4_renewFlange_15 : decode cX4_renewFlange 15 = .ok (.isub, 1) := by decide +kernel
theorem dX4_renewFlange_16 : decode cX4_renewFlange 16 = .ok (.putfield 9, 3) := by decide +kernel
theorem dX4_renewFlange_19 : decode cX4_renewFlange 19 = .ok (.aload_n 0, 1) := by decide +kernel
theorem dX4_renewFlange_20 : decode cX4_renewFlange 20 = .ok (.sipush 300, 3) := by decide +kernel
theorem dX4_renewFlange_23 : decode cX4_renewFlange 23 = .ok (.putfield 15, 3) := by decide +kernel
theorem dX4_renewFlange_26 : decode cX4_renewFlange 26 = .ok (.return_, 1) := by decide +kernel
theorem dX4_isWorn_0 : decode cX4_isWorn 0 = .ok (.aload_n 0, 1) := by decide +kernel
theorem dX4_isWorn_1 : decode cX4_isWorn 1 = .ok (.getfield 9, 3) := by decide +kernel
theorem dX4_isWorn_4 : decode cX4_isWorn 4 = .ok (.sipush 8500, 3) := by decide +kernel
theorem dX4_isWorn_7 : decode cX4_isWorn 7 = .ok (.if_icmp .lt 13, 3) := by decide +kernel
theorem dX4_isWorn_10 : decode cX4_isWorn 10 = .ok (.aload_n 0, 1) := by decide +kernel
theorem dX4_isWorn_11 : decode cX4_isWorn 11 = .ok (.getfield 15, 3) := by decide +kernel
theorem dX4_isWorn_14 : decode cX4_isWorn 14 = .ok (.sipush 250, 3) := by decide +kernel
theorem dX4_isWorn_17 : decode cX4_isWorn 17 = .ok (.if_icmp .ge 7, 3) := by decide +kernel
theorem dX4_isWorn_20 : decode cX4_isWorn 20 = .ok (.iconst 1, 1) := by decide +kernel
theorem dX4_isWorn_21 : decode cX4_isWorn 21 = .ok (.goto 4, 3) := by decide +kernel
theorem dX4_isWorn_24 : decode cX4_isWorn 24 = .ok (.iconst 0, 1) := by decide +kernel
theorem dX4_isWorn_25 : decode cX4_isWorn 25 = .ok (.ireturn, 1) := by decide +kernel
theorem dX5_init_0 : decode cX5_init 0 = .ok (.aload_n 0, 1) := by decide +kernel
theorem dX5_init_1 : decode cX5_init 1 = .ok (.invokespecial 3, 3) := by decide +kernel
theorem dX5_init_4 : decode cX5_init 4 = .ok (.aload_n 0, 1) := by decide +kernel
theorem dX5_init_5 : decode cX5_init 5 = .ok (.new 9, 3) := by decide +kernel
theorem dX5_init_8 : decode cX5_init 8 = .ok (.dup, 1) := by decide +kernel
theorem dX5_init_9 : decode cX5_init 9 = .ok (.invokespecial 11, 3) := by decide +kernel
theorem dX5_init_12 : decode cX5_init 12 = .ok (.putfield 12, 3) := by decide +kernel
theorem dX5_init_15 : decode cX5_init 15 = .ok (.aload_n 0, 1) := by decide +kernel
theorem dX5_init_16 : decode cX5_init 16 = .ok (.new 9, 3) := by decide +kernel
theorem dX5_init_19 : decode cX5_init 19 = .ok (.dup, 1) := by decide +kernel
theorem dX5_init_20 : decode cX5_init 20 = .ok (.invokespecial 11, 3) := by decide +kernel
theorem dX5_init_23 : decode cX5_init 23 = .ok (.putfield 18, 3) := by decide +kernel
theorem dX5_init_26 : decode cX5_init 26 = .ok (.aload_n 0, 1) := by decide +kernel
theorem dX5_init_27 : decode cX5_init 27 = .ok (.bipush 8, 2) := by decide +kernel
theorem dX5_init_29 : decode cX5_init 29 = .ok (.newarray .int, 2) := by decide +kernel
theorem dX5_init_31 : decode cX5_init 31 = .ok (.putfield 21, 3) := by decide +kernel
theorem dX5_init_34 : decode cX5_init 34 = .ok (.return_, 1) := by decide +kernel
theorem dX5_isWaiting_0 : decode cX5_isWaiting 0 = .ok (.iconst 0, 1) := by decide +kernel
theorem dX5_isWaiting_1 : decode cX5_isWaiting 1 = .ok (.istore_n 2, 1) := by decide +kernel
theorem dX5_isWaiting_2 : decode cX5_isWaiting 2 = .ok (.iload_n 2, 1) := by decide +kernel
theorem dX5_isWaiting_3 : decode cX5_isWaiting 3 = .ok (.aload_n 0, 1) := by decide +kernel
theorem dX5_isWaiting_4 : decode cX5_isWaiting 4 = .ok (.getfield 12, 3) := by decide +kernel
theorem dX5_isWaiting_7 : decode cX5_isWaiting 7 = .ok (.invokevirtual 25, 3) := by decide +kernel
theorem dX5_isWaiting_10 : decode cX5_isWaiting 10 = .ok (.if_icmp .ge 23, 3) := by decide +kernel
theorem dX5_isWaiting_13 : decode cX5_isWaiting 13 = .ok (.aload_n 0, 1) := by decide +kernel
theorem dX5_isWaiting_14 : decode cX5_isWaiting 14 = .ok (.getfield 12, 3) := by decide +kernel
theorem dX5_isWaiting_17 : decode cX5_isWaiting 17 = .ok (.iload_n 2, 1) := by decide +kernel
theorem dX5_isWaiting_18 : decode cX5_isWaiting 18 = .ok (.invokevirtual 29, 3) := by decide +kernel
theorem dX5_isWaiting_21 : decode cX5_isWaiting 21 = .ok (.aload_n 1, 1) := by decide +kernel
theorem dX5_isWaiting_22 : decode cX5_isWaiting 22 = .ok (.if_acmp .ne 5, 3) := by decide +kernel
theorem dX5_isWaiting_25 : decode cX5_isWaiting 25 = .ok (.iconst 1, 1) := by decide +kernel
theorem dX5_isWaiting_26 : decode cX5_isWaiting 26 = .ok (.ireturn, 1) := by decide +kernel
theorem dX5_isWaiting_27 : decode cX5_isWaiting 27 = .ok (.iinc 2 1, 3) := by decide +kernel
theorem dX5_isWaiting_30 : decode cX5_isWaiting 30 = .ok (.goto (-28), 3) := by decide +kernel
theorem dX5_isWaiting_33 : decode cX5_isWaiting 33 = .ok (.iconst 0, 1) := by decide +kernel
theorem dX5_isWaiting_34 : decode cX5_isWaiting 34 = .ok (.ireturn, 1) := by decide +kernel
theorem dX5_isTaken_0 : decode cX5_isTaken 0 = .ok (.iconst 0, 1) := by decide +kernel
theorem dX5_isTaken_1 : decode cX5_isTaken 1 = .ok (.istore_n 2, 1) := by decide +kernel
theorem dX5_isTaken_2 : decode cX5_isTaken 2 = .ok (.iload_n 2, 1) := by decide +kernel
theorem dX5_isTaken_3 : decode cX5_isTaken 3 = .ok (.aload_n 0, 1) := by decide +kernel
theorem dX5_isTaken_4 : decode cX5_isTaken 4 = .ok (.getfield 12, 3) := by decide +kernel
theorem dX5_isTaken_7 : decode cX5_isTaken 7 = .ok (.invokevirtual 25, 3) := by decide +kernel
theorem dX5_isTaken_10 : decode cX5_isTaken 10 = .ok (.if_icmp .ge 29, 3) := by decide +kernel
theorem dX5_isTaken_13 : decode cX5_isTaken 13 = .ok (.aload_n 0, 1) := by decide +kernel
theorem dX5_isTaken_14 : decode cX5_isTaken 14 = .ok (.getfield 12, 3) := by decide +kernel
theorem dX5_isTaken_17 : decode cX5_isTaken 17 = .ok (.iload_n 2, 1) := by decide +kernel
theorem dX5_isTaken_18 : decode cX5_isTaken 18 = .ok (.invokevirtual 29, 3) := by decide +kernel
theorem dX5_isTaken_21 : decode cX5_isTaken 21 = .ok (.checkcast 33, 3) := by decide +kernel
theorem dX5_isTaken_24 : decode cX5_isTaken 24 = .ok (.getfield 35, 3) := by decide +kernel
theorem dX5_isTaken_27 : decode cX5_isTaken 27 = .ok (.iload_n 1, 1) := by decide +kernel
theorem dX5_isTaken_28 : decode cX5_isTaken 28 = .ok (.if_icmp .ne 5, 3) := by decide +kernel
theorem dX5_isTaken_31 : decode cX5_isTaken 31 = .ok (.iconst 1, 1) := by decide +kernel
theorem dX5_isTaken_32 : decode cX5_isTaken 32 = .ok (.ireturn, 1) := by decide +kernel
theorem dX5_isTaken_33 : decode cX5_isTaken 33 = .ok (.iinc 2 1, 3) := by decide +kernel
theorem dX5_isTaken_36 : decode cX5_isTaken 36 = .ok (.goto (-34), 3) := by decide +kernel
theorem dX5_isTaken_39 : decode cX5_isTaken 39 = .ok (.iconst 0, 1) := by decide +kernel
theorem dX5_isTaken_40 : decode cX5_isTaken 40 = .ok (.ireturn, 1) := by decide +kernel
theorem dX5_makePlan_0 : decode cX5_makePlan 0 = .ok (.aload_n 0, 1) := by decide +kernel
theorem dX5_makePlan_1 : decode cX5_makePlan 1 = .ok (.invokevirtual 39, 3) := by decide +kernel
theorem dX5_makePlan_4 : decode cX5_makePlan 4 = .ok (.aload_n 0, 1) := by decide +kernel
theorem dX5_makePlan_5 : decode cX5_makePlan 5 = .ok (.sipush 1000, 3) := by decide +kernel
theorem dX5_makePlan_8 : decode cX5_makePlan 8 = .ok (.putfield 42, 3) := by decide +kernel
theorem dX5_makePlan_11 : decode cX5_makePlan 11 = .ok (.aload_n 0, 1) := by decide +kernel
theorem dX5_makePlan_12 : decode cX5_makePlan 12 = .ok (.iconst 0, 1) := by decide +kernel
theorem dX5_makePlan_13 : decode cX5_makePlan 13 = .ok (.iconst 0, 1) := by decide +kernel
theorem dX5_makePlan_14 : decode cX5_makePlan 14 = .ok (.iconst 0, 1) := by decide +kernel
theorem dX5_makePlan_15 : decode cX5_makePlan 15 = .ok (.invokestatic 45, 3) := by decide +kernel
theorem dX5_makePlan_18 : decode cX5_makePlan 18 = .ok (.aload_n 0, 1) := by decide +kernel
theorem dX5_makePlan_19 : decode cX5_makePlan 19 = .ok (.getfield 42, 3) := by decide +kernel
theorem dX5_makePlan_22 : decode cX5_makePlan 22 = .ok (.ireturn, 1) := by decide +kernel
theorem dX5_makePlanAnew_0 : decode cX5_makePlanAnew 0 = .ok (.aload_n 0, 1) := by decide +kernel
theorem dX5_makePlanAnew_1 : decode cX5_makePlanAnew 1 = .ok (.invokevirtual 39, 3) := by decide +kernel
theorem dX5_makePlanAnew_4 : decode cX5_makePlanAnew 4 = .ok (.aload_n 0, 1) := by decide +kernel
theorem dX5_makePlanAnew_5 : decode cX5_makePlanAnew 5 = .ok (.iconst 0, 1) := by decide +kernel
theorem dX5_makePlanAnew_6 : decode cX5_makePlanAnew 6 = .ok (.iconst 0, 1) := by decide +kernel
theorem dX5_makePlanAnew_7 : decode cX5_makePlanAnew 7 = .ok (.invokestatic 49, 3) := by decide +kernel
theorem dX5_makePlanAnew_10 : decode cX5_makePlanAnew 10 = .ok (.ireturn, 1) := by decide +kernel
theorem dX5_park_0 : decode cX5_park 0 = .ok (.aload_n 0, 1) := by decide +kernel
theorem dX5_park_1 : decode cX5_park 1 = .ok (.invokevirtual 53, 3) := by decide +kernel
theorem dX5_park_4 : decode cX5_park 4 = .ok (.istore_n 1, 1) := by decide +kernel
theorem dX5_park_5 : decode cX5_park 5 = .ok (.iconst 0, 1) := by decide +kernel
theorem dX5_park_6 : decode cX5_park 6 = .ok (.istore_n 2, 1) := by decide +kernel
theorem dX5_park_7 : decode cX5_park 7 = .ok (.iload_n 2, 1) := by decide +kernel
theorem dX5_park_8 : decode cX5_park 8 = .ok (.aload_n 0, 1) := by decide +kernel
theorem dX5_park_9 : decode cX5_park 9 = .ok (.getfield 12, 3) := by decide +kernel
theorem dX5_park_12 : decode cX5_park 12 = .ok (.invokevirtual 25, 3) := by decide +kernel
theorem dX5_park_15 : decode cX5_park 15 = .ok (.if_icmp .ge 42, 3) := by decide +kernel
theorem dX5_park_18 : decode cX5_park 18 = .ok (.aload_n 0, 1) := by decide +kernel
theorem dX5_park_19 : decode cX5_park 19 = .ok (.getfield 12, 3) := by decide +kernel
theorem dX5_park_22 : decode cX5_park 22 = .ok (.iload_n 2, 1) := by decide +kernel
theorem dX5_park_23 : decode cX5_park 23 = .ok (.invokevirtual 29, 3) := by decide +kernel
theorem dX5_park_26 : decode cX5_park 26 = .ok (.checkcast 33, 3) := by decide +kernel
theorem dX5_park_29 : decode cX5_park 29 = .ok (.astore_n 3, 1) := by decide +kernel
theorem dX5_park_30 : decode cX5_park 30 = .ok (.aload_n 3, 1) := by decide +kernel
theorem dX5_park_31 : decode cX5_park 31 = .ok (.aload_n 0, 1) := by decide +kernel
theorem dX5_park_32 : decode cX5_park 32 = .ok (.getfield 56, 3) := by decide +kernel
theorem dX5_park_35 : decode cX5_park 35 = .ok (.iload_n 2, 1) := by decide +kernel
theorem dX5_park_36 : decode cX5_park 36 = .ok (.invokestatic 59, 3) := by decide +kernel
theorem dX5_park_39 : decode cX5_park 39 = .ok (.putfield 63, 3) := by decide +kernel
theorem dX5_park_42 : decode cX5_park 42 = .ok (.aload_n 0, 1) := by decide +kernel
theorem dX5_park_43 : decode cX5_park 43 = .ok (.getfield 18, 3) := by decide +kernel
theorem dX5_park_46 : decode cX5_park 46 = .ok (.aload_n 3, 1) := by decide +kernel
theorem dX5_park_47 : decode cX5_park 47 = .ok (.invokevirtual 66, 3) := by decide +kernel
theorem dX5_park_50 : decode cX5_park 50 = .ok (.pop, 1) := by decide +kernel
theorem dX5_park_51 : decode cX5_park 51 = .ok (.iinc 2 1, 3) := by decide +kernel
theorem dX5_park_54 : decode cX5_park 54 = .ok (.goto (-47), 3) := by decide +kernel
theorem dX5_park_57 : decode cX5_park 57 = .ok (.aload_n 0, 1) := by decide +kernel
theorem dX5_park_58 : decode cX5_park 58 = .ok (.getfield 12, 3) := by decide +kernel
theorem dX5_park_61 : decode cX5_park 61 = .ok (.invokevirtual 70, 3) := by decide +kernel
theorem dX5_park_64 : decode cX5_park 64 = .ok (.iload_n 1, 1) := by decide +kernel
theorem dX5_park_65 : decode cX5_park 65 = .ok (.ireturn, 1) := by decide +kernel
theorem dX5_sendFirst_0 : decode cX5_sendFirst 0 = .ok (.iconst 0, 1) := by decide +kernel
theorem dX5_sendFirst_1 : decode cX5_sendFirst 1 = .ok (.istore_n 1, 1) := by decide +kernel
theorem dX5_sendFirst_2 : decode cX5_sendFirst 2 = .ok (.iconst 1, 1) := by decide +kernel
theorem dX5_sendFirst_3 : decode cX5_sendFirst 3 = .ok (.istore_n 2, 1) := by decide +kernel
theorem dX5_sendFirst_4 : decode cX5_sendFirst 4 = .ok (.iload_n 2, 1) := by decide +kernel
theorem dX5_sendFirst_5 : decode cX5_sendFirst 5 = .ok (.aload_n 0, 1) := by decide +kernel
theorem dX5_sendFirst_6 : decode cX5_sendFirst 6 = .ok (.getfield 18, 3) := by decide +kernel
theorem dX5_sendFirst_9 : decode cX5_sendFirst 9 = .ok (.invokevirtual 25, 3) := by decide +kernel
theorem dX5_sendFirst_12 : decode cX5_sendFirst 12 = .ok (.if_icmp .ge 42, 3) := by decide +kernel
theorem dX5_sendFirst_15 : decode cX5_sendFirst 15 = .ok (.aload_n 0, 1) := by decide +kernel
theorem dX5_sendFirst_16 : decode cX5_sendFirst 16 = .ok (.getfield 18, 3) := by decide +kernel
theorem dX5_sendFirst_19 : decode cX5_sendFirst 19 = .ok (.iload_n 2, 1) := by decide +kernel
theorem dX5_sendFirst_20 : decode cX5_sendFirst 20 = .ok (.invokevirtual 29, 3) := by decide +kernel
theorem dX5_sendFirst_23 : decode cX5_sendFirst 23 = .ok (.checkcast 33, 3) := by decide +kernel
theorem dX5_sendFirst_26 : decode cX5_sendFirst 26 = .ok (.getfield 35, 3) := by decide +kernel
theorem dX5_sendFirst_29 : decode cX5_sendFirst 29 = .ok (.aload_n 0, 1) := by decide +kernel
theorem dX5_sendFirst_30 : decode cX5_sendFirst 30 = .ok (.getfield 18, 3) := by decide +kernel
theorem dX5_sendFirst_33 : decode cX5_sendFirst 33 = .ok (.iload_n 1, 1) := by decide +kernel
theorem dX5_sendFirst_34 : decode cX5_sendFirst 34 = .ok (.invokevirtual 29, 3) := by decide +kernel
theorem dX5_sendFirst_37 : decode cX5_sendFirst 37 = .ok (.checkcast 33, 3) := by decide +kernel
theorem dX5_sendFirst_40 : decode cX5_sendFirst 40 = .ok (.getfield 35, 3) := by decide +kernel
theorem dX5_sendFirst_43 : decode cX5_sendFirst 43 = .ok (.if_icmp .ge 5, 3) := by decide +kernel
theorem dX5_sendFirst_46 : decode cX5_sendFirst 46 = .ok (.iload_n 2, 1) := by decide +kernel
theorem dX5_sendFirst_47 : decode cX5_sendFirst 47 = .ok (.istore_n 1, 1) := by decide +kernel
theorem dX5_sendFirst_48 : decode cX5_sendFirst 48 = .ok (.iinc 2 1, 3) := by decide +kernel
theorem dX5_sendFirst_51 : decode cX5_sendFirst 51 = .ok (.goto (-47), 3) := by decide +kernel
theorem dX5_sendFirst_54 : decode cX5_sendFirst 54 = .ok (.iload_n 1, 1) := by decide +kernel
theorem dX5_sendFirst_55 : decode cX5_sendFirst 55 = .ok (.aload_n 0, 1) := by decide +kernel
theorem dX5_sendFirst_56 : decode cX5_sendFirst 56 = .ok (.getfield 18, 3) := by decide +kernel
theorem dX5_sendFirst_59 : decode cX5_sendFirst 59 = .ok (.invokevirtual 25, 3) := by decide +kernel
theorem dX5_sendFirst_62 : decode cX5_sendFirst 62 = .ok (.if_icmp .lt 5, 3) := by decide +kernel
theorem dX5_sendFirst_65 : decode cX5_sendFirst 65 = .ok (.iconst 0, 1) := by decide +kernel
theorem dX5_sendFirst_66 : decode cX5_sendFirst 66 = .ok (.ireturn, 1) := by decide +kernel
theorem dX5_sendFirst_67 : decode cX5_sendFirst 67 = .ok (.aload_n 0, 1) := by decide +kernel
theorem dX5_sendFirst_68 : decode cX5_sendFirst 68 = .ok (.getfield 18, 3) := by decide +kernel
theorem dX5_sendFirst_71 : decode cX5_sendFirst 71 = .ok (.iload_n 1, 1) := by decide +kernel
theorem dX5_sendFirst_72 : decode cX5_sendFirst 72 = .ok (.invokevirtual 73, 3) := by decide +kernel
theorem dX5_sendFirst_75 : decode cX5_sendFirst 75 = .ok (.checkcast 33, 3) := by decide +kernel
theorem dX5_sendFirst_78 : decode cX5_sendFirst 78 = .ok (.astore_n 2, 1) := by decide +kernel
theorem dX5_sendFirst_79 : decode cX5_sendFirst 79 = .ok (.iconst 0, 1) := by decide +kernel
theorem dX5_sendFirst_80 : decode cX5_sendFirst 80 = .ok (.istore_n 3, 1) := by decide +kernel
theorem dX5_sendFirst_81 : decode cX5_sendFirst 81 = .ok (.iload_n 1, 1) := by decide +kernel
theorem dX5_sendFirst_82 : decode cX5_sendFirst 82 = .ok (.istore 4, 2) := by decide +kernel
theorem dX5_sendFirst_84 : decode cX5_sendFirst 84 = .ok (.iload 4, 2) := by decide +kernel
theorem dX5_sendFirst_86 : decode cX5_sendFirst 86 = .ok (.aload_n 0, 1) := by decide +kernel
theorem dX5_sendFirst_87 : decode cX5_sendFirst 87 = .ok (.getfield 18, 3) := by decide +kernel
theorem dX5_sendFirst_90 : decode cX5_sendFirst 90 = .ok (.invokevirtual 25, 3) := by decide +kernel
theorem dX5_sendFirst_93 : decode cX5_sendFirst 93 = .ok (.if_icmp .ge 34, 3) := by decide +kernel
theorem dX5_sendFirst_96 : decode cX5_sendFirst 96 = .ok (.aload_n 0, 1) := by decide +kernel
theorem dX5_sendFirst_97 : decode cX5_sendFirst 97 = .ok (.getfield 18, 3) := by decide +kernel
theorem dX5_sendFirst_100 : decode cX5_sendFirst 100 = .ok (.iload 4, 2) := by decide +kernel
theorem dX5_sendFirst_102 : decode cX5_sendFirst 102 = .ok (.invokevirtual 29, 3) := by decide +kernel
theorem dX5_sendFirst_105 : decode cX5_sendFirst 105 = .ok (.checkcast 33, 3) := by decide +kernel
theorem dX5_sendFirst_108 : decode cX5_sendFirst 108 = .ok (.getfield 63, 3) := by decide +kernel
theorem dX5_sendFirst_111 : decode cX5_sendFirst 111 = .ok (.aload_n 2, 1) := by decide +kernel
theorem dX5_sendFirst_112 : decode cX5_sendFirst 112 = .ok (.getfield 63, 3) := by decide +kernel
theorem dX5_sendFirst_115 : decode cX5_sendFirst 115 = .ok (.if_icmp .ne 6, 3) := by decide +kernel
theorem dX5_sendFirst_118 : decode cX5_sendFirst 118 = .ok (.iinc 3 1, 3) := by decide +kernel
theorem dX5_sendFirst_121 : decode cX5_sendFirst 121 = .ok (.iinc 4 1, 3) := by decide +kernel
theorem dX5_sendFirst_124 : decode cX5_sendFirst 124 = .ok (.goto (-40), 3) := by decide +kernel
theorem dX5_sendFirst_127 : decode cX5_sendFirst 127 = .ok (.aload_n 2, 1) := by decide +kernel
theorem dX5_sendFirst_128 : decode cX5_sendFirst 128 = .ok (.iconst (-1), 1) := by decide +kernel
theorem dX5_sendFirst_129 : decode cX5_sendFirst 129 = .ok (.putfield 63, 3) := by decide +kernel
theorem dX5_sendFirst_132 : decode cX5_sendFirst 132 = .ok (.iload_n 3, 1) := by decide +kernel
theorem dX5_sendFirst_133 : decode cX5_sendFirst 133 = .ok (.ireturn, 1) := by decide +kernel
theorem dX5_trainOn_0 : decode cX5_trainOn 0 = .ok (.iconst 0, 1) := by decide +kernel
theorem dX5_trainOn_1 : decode cX5_trainOn 1 = .ok (.istore_n 3, 1) := by decide +kernel
theorem dX5_trainOn_2 : decode cX5_trainOn 2 = .ok (.iconst 0, 1) := by decide +kernel
theorem dX5_trainOn_3 : decode cX5_trainOn 3 = .ok (.istore 4, 2) := by decide +kernel
theorem dX5_trainOn_5 : decode cX5_trainOn 5 = .ok (.iload 4, 2) := by decide +kernel
theorem dX5_trainOn_7 : decode cX5_trainOn 7 = .ok (.aload_n 0, 1) := by decide +kernel
theorem dX5_trainOn_8 : decode cX5_trainOn 8 = .ok (.getfield 18, 3) := by decide +kernel
theorem dX5_trainOn_11 : decode cX5_trainOn 11 = .ok (.invokevirtual 25, 3) := by decide +kernel
theorem dX5_trainOn_14 : decode cX5_trainOn 14 = .ok (.if_icmp .ge 46, 3) := by decide +kernel
theorem dX5_trainOn_17 : decode cX5_trainOn 17 = .ok (.aload_n 0, 1) := by decide +kernel
theorem dX5_trainOn_18 : decode cX5_trainOn 18 = .ok (.getfield 18, 3) := by decide +kernel
theorem dX5_trainOn_21 : decode cX5_trainOn 21 = .ok (.iload 4, 2) := by decide +kernel
theorem dX5_trainOn_23 : decode cX5_trainOn 23 = .ok (.invokevirtual 29, 3) := by decide +kernel
theorem dX5_trainOn_26 : decode cX5_trainOn 26 = .ok (.checkcast 33, 3) := by decide +kernel
theorem dX5_trainOn_29 : decode cX5_trainOn 29 = .ok (.astore 5, 2) := by decide +kernel
theorem dX5_trainOn_31 : decode cX5_trainOn 31 = .ok (.aload 5, 2) := by decide +kernel
theorem dX5_trainOn_33 : decode cX5_trainOn 33 = .ok (.getfield 63, 3) := by decide +kernel
theorem dX5_trainOn_36 : decode cX5_trainOn 36 = .ok (.iload_n 1, 1) := by decide +kernel
theorem dX5_trainOn_37 : decode cX5_trainOn 37 = .ok (.if_icmp .ne 17, 3) := by decide +kernel
theorem dX5_trainOn_40 : decode cX5_trainOn 40 = .ok (.iload_n 3, 1) := by decide +kernel
theorem dX5_trainOn_41 : decode cX5_trainOn 41 = .ok (.iload_n 2, 1) := by decide +kernel
theorem dX5_trainOn_42 : decode cX5_trainOn 42 = .ok (.if_icmp .ne 9, 3) := by decide +kernel
theorem dX5_trainOn_45 : decode cX5_trainOn 45 = .ok (.aload 5, 2) := by decide +kernel
theorem dX5_trainOn_47 : decode cX5_trainOn 47 = .ok (.getfield 76, 3) := by decide +kernel
theorem dX5_trainOn_50 : decode cX5_trainOn 50 = .ok (.ireturn, 1) := by decide +kernel
theorem dX5_trainOn_51 : decode cX5_trainOn 51 = .ok (.iinc 3 1, 3) := by decide +kernel
theorem dX5_trainOn_54 : decode cX5_trainOn 54 = .ok (.iinc 4 1, 3) := by decide +kernel
theorem dX5_trainOn_57 : decode cX5_trainOn 57 = .ok (.goto (-52), 3) := by decide +kernel
theorem dX5_trainOn_60 : decode cX5_trainOn 60 = .ok (.iconst (-1), 1) := by decide +kernel
theorem dX5_trainOn_61 : decode cX5_trainOn 61 = .ok (.ireturn, 1) := by decide +kernel
theorem dX5_markBlocked_0 : decode cX5_markBlocked 0 = .ok (.iconst 0, 1) := by decide +kernel
theorem dX5_markBlocked_1 : decode cX5_markBlocked 1 = .ok (.istore_n 1, 1) := by decide +kernel
theorem dX5_markBlocked_2 : decode cX5_markBlocked 2 = .ok (.iload_n 1, 1) := by decide +kernel
theorem dX5_markBlocked_3 : decode cX5_markBlocked 3 = .ok (.aload_n 0, 1) := by decide +kernel
theorem dX5_markBlocked_4 : decode cX5_markBlocked 4 = .ok (.getfield 12, 3) := by decide +kernel
theorem dX5_markBlocked_7 : decode cX5_markBlocked 7 = .ok (.invokevirtual 25, 3) := by decide +kernel
theorem dX5_markBlocked_10 : decode cX5_markBlocked 10 = .ok (.if_icmp .ge 81, 3) := by decide +kernel
theorem dX5_markBlocked_13 : decode cX5_markBlocked 13 = .ok (.iload_n 1, 1) := by decide +kernel
theorem dX5_markBlocked_14 : decode cX5_markBlocked 14 = .ok (.aload_n 0, 1) := by decide +kernel
theorem dX5_markBlocked_15 : decode cX5_markBlocked 15 = .ok (.getfield 21, 3) := by decide +kernel
theorem dX5_markBlocked_18 : decode cX5_markBlocked 18 = .ok (.arraylength, 1) := by decide +kernel
theorem dX5_markBlocked_19 : decode cX5_markBlocked 19 = .ok (.if_icmp .ge 72, 3) := by decide +kernel
theorem dX5_markBlocked_22 : decode cX5_markBlocked 22 = .ok (.aload_n 0, 1) := by decide +kernel
theorem dX5_markBlocked_23 : decode cX5_markBlocked 23 = .ok (.getfield 21, 3) := by decide +kernel
theorem dX5_markBlocked_26 : decode cX5_markBlocked 26 = .ok (.iload_n 1, 1) := by decide +kernel
theorem dX5_markBlocked_27 : decode cX5_markBlocked 27 = .ok (.iconst 0, 1) := by decide +kernel
theorem dX5_markBlocked_28 : decode cX5_markBlocked 28 = .ok (.iastore, 1) := by decide +kernel
theorem dX5_markBlocked_29 : decode cX5_markBlocked 29 = .ok (.iconst 0, 1) := by decide +kernel
theorem dX5_markBlocked_30 : decode cX5_markBlocked 30 = .ok (.istore_n 2, 1) := by decide +kernel
theorem dX5_markBlocked_31 : decode cX5_markBlocked 31 = .ok (.iload_n 2, 1) := by decide +kernel
theorem dX5_markBlocked_32 : decode cX5_markBlocked 32 = .ok (.iload_n 1, 1) := by decide +kernel
theorem dX5_markBlocked_33 : decode cX5_markBlocked 33 = .ok (.if_icmp .ge 52, 3) := by decide +kernel
theorem dX5_markBlocked_36 : decode cX5_markBlocked 36 = .ok (.aload_n 0, 1) := by decide +kernel
theorem dX5_markBlocked_37 : decode cX5_markBlocked 37 = .ok (.getfield 12, 3) := by decide +kernel
theorem dX5_markBlocked_40 : decode cX5_markBlocked 40 = .ok (.iload_n 2, 1) := by decide +kernel
theorem dX5_markBlocked_41 : decode cX5_markBlocked 41 = .ok (.invokevirtual 29, 3) := by decide +kernel
theorem dX5_markBlocked_44 : decode cX5_markBlocked 44 = .ok (.checkcast 33, 3) := by decide +kernel
theorem dX5_markBlocked_47 : decode cX5_markBlocked 47 = .ok (.getfield 35, 3) := by decide +kernel
theorem dX5_markBlocked_50 : decode cX5_markBlocked 50 = .ok (.aload_n 0, 1) := by decide +kernel
theorem dX5_markBlocked_51 : decode cX5_markBlocked 51 = .ok (.getfield 12, 3) := by decide +kernel
theorem dX5_markBlocked_54 : decode cX5_markBlocked 54 = .ok (.iload_n 1, 1) := by decide +kernel
theorem dX5_markBlocked_55 : decode cX5_markBlocked 55 = .ok (.invokevirtual 29, 3) := by decide +kernel
theorem dX5_markBlocked_58 : decode cX5_markBlocked 58 = .ok (.checkcast 33, 3) := by decide +kernel
theorem dX5_markBlocked_61 : decode cX5_markBlocked 61 = .ok (.getfield 35, 3) := by decide +kernel
theorem dX5_markBlocked_64 : decode cX5_markBlocked 64 = .ok (.if_icmp .ge 15, 3) := by decide +kernel
theorem dX5_markBlocked_67 : decode cX5_markBlocked 67 = .ok (.aload_n 0, 1) := by decide +kernel
theorem dX5_markBlocked_68 : decode cX5_markBlocked 68 = .ok (.getfield 21, 3) := by decide +kernel
theorem dX5_markBlocked_71 : decode cX5_markBlocked 71 = .ok (.iload_n 1, 1) := by decide +kernel
theorem dX5_markBlocked_72 : decode cX5_markBlocked 72 = .ok (.dup2, 1) := by decide +kernel
theorem dX5_markBlocked_73 : decode cX5_markBlocked 73 = .ok (.iaload, 1) := by decide +kernel
theorem dX5_markBlocked_74 : decode cX5_markBlocked 74 = .ok (.iconst 1, 1) := by decide +kernel
theorem dX5_markBlocked_75 : decode cX5_markBlocked 75 = .ok (.iload_n 2, 1) := by decide +kernel
theorem dX5_markBlocked_76 : decode cX5_markBlocked 76 = .ok (.ishl, 1) := by decide +kernel
theorem dX5_markBlocked_77 : decode cX5_markBlocked 77 = .ok (.ior, 1) := by decide +kernel
theorem dX5_markBlocked_78 : decode cX5_markBlocked 78 = .ok (.iastore, 1) := by decide +kernel
theorem dX5_markBlocked_79 : decode cX5_markBlocked 79 = .ok (.iinc 2 1, 3) := by decide +kernel
theorem dX5_markBlocked_82 : decode cX5_markBlocked 82 = .ok (.goto (-51), 3) := by decide +kernel
theorem dX5_markBlocked_85 : decode cX5_markBlocked 85 = .ok (.iinc 1 1, 3) := by decide +kernel
theorem dX5_markBlocked_88 : decode cX5_markBlocked 88 = .ok (.goto (-86), 3) := by decide +kernel
theorem dX5_markBlocked_91 : decode cX5_markBlocked 91 = .ok (.return_, 1) := by decide +kernel
theorem dX5_searchPlan_0 : decode cX5_searchPlan 0 = .ok (.iload_n 3, 1) := by decide +kernel
theorem dX5_searchPlan_1 : decode cX5_searchPlan 1 = .ok (.aload_n 0, 1) := by decide +kernel
theorem dX5_searchPlan_2 : decode cX5_searchPlan 2 = .ok (.getfield 42, 3) := by decide +kernel
theorem dX5_searchPlan_5 : decode cX5_searchPlan 5 = .ok (.if_icmp .lt 4, 3) := by decide +kernel
theorem dX5_searchPlan_8 : decode cX5_searchPlan 8 = .ok (.return_, 1) := by decide +kernel
theorem dX5_searchPlan_9 : decode cX5_searchPlan 9 = .ok (.iload_n 1, 1) := by decide +kernel
theorem dX5_searchPlan_10 : decode cX5_searchPlan 10 = .ok (.aload_n 0, 1) := by decide +kernel
theorem dX5_searchPlan_11 : decode cX5_searchPlan 11 = .ok (.getfield 12, 3) := by decide +kernel
theorem dX5_searchPlan_14 : decode cX5_searchPlan 14 = .ok (.invokevirtual 25, 3) := by decide +kernel
theorem dX5_searchPlan_17 : decode cX5_searchPlan 17 = .ok (.if_icmp .ge 12, 3) := by decide +kernel
theorem dX5_searchPlan_20 : decode cX5_searchPlan 20 = .ok (.iload_n 1, 1) := by decide +kernel
theorem dX5_searchPlan_21 : decode cX5_searchPlan 21 = .ok (.aload_n 0, 1) := by decide +kernel
theorem dX5_searchPlan_22 : decode cX5_searchPlan 22 = .ok (.getfield 21, 3) := by decide +kernel
theorem dX5_searchPlan_25 : decode cX5_searchPlan 25 = .ok (.arraylength, 1) := by decide +kernel
theorem dX5_searchPlan_26 : decode cX5_searchPlan 26 = .ok (.if_icmp .lt 14, 3) := by decide +kernel
theorem dX5_searchPlan_29 : decode cX5_searchPlan 29 = .ok (.aload_n 0, 1) := by decide +kernel
theorem dX5_searchPlan_30 : decode cX5_searchPlan 30 = .ok (.iload_n 3, 1) := by decide +kernel
theorem dX5_searchPlan_31 : decode cX5_searchPlan 31 = .ok (.putfield 42, 3) := by decide +kernel
theorem dX5_searchPlan_34 : decode cX5_searchPlan 34 = .ok (.aload_n 0, 1) := by decide +kernel
theorem dX5_searchPlan_35 : decode cX5_searchPlan 35 = .ok (.iload_n 2, 1) := by decide +kernel
theorem dX5_searchPlan_36 : decode cX5_searchPlan 36 = .ok (.putfield 56, 3) := by decide +kernel
theorem dX5_searchPlan_39 : decode cX5_searchPlan 39 = .ok (.return_, 1) := by decide +kernel
theorem dX5_searchPlan_40 : decode cX5_searchPlan 40 = .ok (.iconst 0, 1) := by decide +kernel
theorem dX5_searchPlan_41 : decode cX5_searchPlan 41 = .ok (.istore 4, 2) := by decide +kernel
theorem dX5_searchPlan_43 : decode cX5_searchPlan 43 = .ok (.iload 4, 2) := by decide +kernel
theorem dX5_searchPlan_45 : decode cX5_searchPlan 45 = .ok (.iconst 3, 1) := by decide +kernel
theorem dX5_searchPlan_46 : decode cX5_searchPlan 46 = .ok (.if_icmp .ge 55, 3) := by decide +kernel
theorem dX5_searchPlan_49 : decode cX5_searchPlan 49 = .ok (.iload_n 2, 1) := by decide +kernel
theorem dX5_searchPlan_50 : decode cX5_searchPlan 50 = .ok (.iload 4, 2) := by decide +kernel
theorem dX5_searchPlan_52 : decode cX5_searchPlan 52 = .ok (.invokestatic 79, 3) := by decide +kernel
theorem dX5_searchPlan_55 : decode cX5_searchPlan 55 = .ok (.istore 5, 2) := by decide +kernel
theorem dX5_searchPlan_57 : decode cX5_searchPlan 57 = .ok (.iload 5, 2) := by decide +kernel
theorem dX5_searchPlan_59 : decode cX5_searchPlan 59 = .ok (.invokestatic 82, 3) := by decide +kernel
theorem dX5_searchPlan_62 : decode cX5_searchPlan 62 = .ok (.iconst 4, 1) := by decide +kernel
theorem dX5_searchPlan_63 : decode cX5_searchPlan 63 = .ok (.if_icmp .ge 32, 3) := by decide +kernel
theorem dX5_searchPlan_66 : decode cX5_searchPlan 66 = .ok (.aload_n 0, 1) := by decide +kernel
theorem dX5_searchPlan_67 : decode cX5_searchPlan 67 = .ok (.iload_n 1, 1) := by decide +kernel
theorem dX5_searchPlan_68 : decode cX5_searchPlan 68 = .ok (.iconst 1, 1) := by decide +kernel
theorem dX5_searchPlan_69 : decode cX5_searchPlan 69 = .ok (.iadd, 1) := by decide +kernel
theorem dX5_searchPlan_70 : decode cX5_searchPlan 70 = .ok (.iload_n 2, 1) := by decide +kernel
theorem dX5_searchPlan_71 : decode cX5_searchPlan 71 = .ok (.iload 4, 2) := by decide +kernel
theorem dX5_searchPlan_73 : decode cX5_searchPlan 73 = .ok (.iload_n 1, 1) := by decide +kernel
theorem dX5_searchPlan_74 : decode cX5_searchPlan 74 = .ok (.invokestatic 88, 3) := by decide +kernel
theorem dX5_searchPlan_77 : decode cX5_searchPlan 77 = .ok (.ior, 1) := by decide +kernel
theorem dX5_searchPlan_78 : decode cX5_searchPlan 78 = .ok (.iload_n 3, 1) := by decide +kernel
theorem dX5_searchPlan_79 : decode cX5_searchPlan 79 = .ok (.iload 5, 2) := by decide +kernel
theorem dX5_searchPlan_81 : decode cX5_searchPlan 81 = .ok (.aload_n 0, 1) := by decide +kernel
theorem dX5_searchPlan_82 : decode cX5_searchPlan 82 = .ok (.getfield 21, 3) := by decide +kernel
theorem dX5_searchPlan_85 : decode cX5_searchPlan 85 = .ok (.iload_n 1, 1) := by decide +kernel
theorem dX5_searchPlan_86 : decode cX5_searchPlan 86 = .ok (.iaload, 1) := by decide +kernel
theorem dX5_searchPlan_87 : decode cX5_searchPlan 87 = .ok (.iand, 1) := by decide +kernel
theorem dX5_searchPlan_88 : decode cX5_searchPlan 88 = .ok (.invokestatic 82, 3) := by decide +kernel
theorem dX5_searchPlan_91 : decode cX5_searchPlan 91 = .ok (.iadd, 1) := by decide +kernel
theorem dX5_searchPlan_92 : decode cX5_searchPlan 92 = .ok (.invokestatic 45, 3) := by decide +kernel
theorem dX5_searchPlan_95 : decode cX5_searchPlan 95 = .ok (.iinc 4 1, 3) := by decide +kernel
theorem dX5_searchPlan_98 : decode cX5_searchPlan 98 = .ok (.goto (-55), 3) := by decide +kernel
theorem dX5_searchPlan_101 : decode cX5_searchPlan 101 = .ok (.return_, 1) := by decide +kernel
theorem dX5_fewestMoves_0 : decode cX5_fewestMoves 0 = .ok (.iload_n 1, 1) := by decide +kernel
theorem dX5_fewestMoves_1 : decode cX5_fewestMoves 1 = .ok (.aload_n 0, 1) := by decide +kernel
theorem dX5_fewestMoves_2 : decode cX5_fewestMoves 2 = .ok (.getfield 12, 3) := by decide +kernel
theorem dX5_fewestMoves_5 : decode cX5_fewestMoves 5 = .ok (.invokevirtual 25, 3) := by decide +kernel
theorem dX5_fewestMoves_8 : decode cX5_fewestMoves 8 = .ok (.if_icmp .ge 12, 3) := by decide +kernel
theorem dX5_fewestMoves_11 : decode cX5_fewestMoves 11 = .ok (.iload_n 1, 1) := by decide +kernel
theorem dX5_fewestMoves_12 : decode cX5_fewestMoves 12 = .ok (.aload_n 0, 1) := by decide +kernel
theorem dX5_fewestMoves_13 : decode cX5_fewestMoves 13 = .ok (.getfield 21, 3) := by decide +kernel
theorem dX5_fewestMoves_16 : decode cX5_fewestMoves 16 = .ok (.arraylength, 1) := by decide +kernel
theorem dX5_fewestMoves_17 : decode cX5_fewestMoves 17 = .ok (.if_icmp .lt 5, 3) := by decide +kernel
theorem dX5_fewestMoves_20 : decode cX5_fewestMoves 20 = .ok (.iconst 0, 1) := by decide +kernel
theorem dX5_fewestMoves_21 : decode cX5_fewestMoves 21 = .ok (.ireturn, 1) := by decide +kernel
theorem dX5_fewestMoves_22 : decode cX5_fewestMoves 22 = .ok (.sipush 1000, 3) := by decide +kernel
theorem dX5_fewestMoves_25 : decode cX5_fewestMoves 25 = .ok (.istore_n 3, 1) := by decide +kernel
theorem dX5_fewestMoves_26 : decode cX5_fewestMoves 26 = .ok (.iconst 0, 1) := by decide +kernel
theorem dX5_fewestMoves_27 : decode cX5_fewestMoves 27 = .ok (.istore 4, 2) := by decide +kernel
theorem dX5_fewestMoves_29 : decode cX5_fewestMoves 29 = .ok (.iload 4, 2) := by decide +kernel
theorem dX5_fewestMoves_31 : decode cX5_fewestMoves 31 = .ok (.iconst 3, 1) := by decide +kernel
theorem dX5_fewestMoves_32 : decode cX5_fewestMoves 32 = .ok (.if_icmp .ge 63, 3) := by decide +kernel
theorem dX5_fewestMoves_35 : decode cX5_fewestMoves 35 = .ok (.iload_n 2, 1) := by decide +kernel
theorem dX5_fewestMoves_36 : decode cX5_fewestMoves 36 = .ok (.iload 4, 2) := by decide +kernel
theorem dX5_fewestMoves_38 : decode cX5_fewestMoves 38 = .ok (.invokestatic 79, 3) := by decide +kernel
theorem dX5_fewestMoves_41 : decode cX5_fewestMoves 41 = .ok (.istore 5, 2) := by decide +kernel
theorem dX5_fewestMoves_43 : decode cX5_fewestMoves 43 = .ok (.iload 5, 2) := by decide +kernel
theorem dX5_fewestMoves_45 : decode cX5_fewestMoves 45 = .ok (.invokestatic 82, 3) := by decide +kernel
theorem dX5_fewestMoves_48 : decode cX5_fewestMoves 48 = .ok (.iconst 4, 1) := by decide +kernel
theorem dX5_fewestMoves_49 : decode cX5_fewestMoves 49 = .ok (.if_icmp .ge 40, 3) := by decide +kernel
theorem dX5_fewestMoves_52 : decode cX5_fewestMoves 52 = .ok (.iload 5, 2) := by decide +kernel
theorem dX5_fewestMoves_54 : decode cX5_fewestMoves 54 = .ok (.aload_n 0, 1) := by decide +kernel
theorem dX5_fewestMoves_55 : decode cX5_fewestMoves 55 = .ok (.getfield 21, 3) := by decide +kernel
theorem dX5_fewestMoves_58 : decode cX5_fewestMoves 58 = .ok (.iload_n 1, 1) := by decide +kernel
theorem dX5_fewestMoves_59 : decode cX5_fewestMoves 59 = .ok (.iaload, 1) := by decide +kernel
theorem dX5_fewestMoves_60 : decode cX5_fewestMoves 60 = .ok (.iand, 1) := by decide +kernel
theorem dX5_fewestMoves_61 : decode cX5_fewestMoves 61 = .ok (.invokestatic 82, 3) := by decide +kernel
theorem dX5_fewestMoves_64 : decode cX5_fewestMoves 64 = .ok (.aload_n 0, 1) := by decide +kernel
theorem dX5_fewestMoves_65 : decode cX5_fewestMoves 65 = .ok (.iload_n 1, 1) := by decide +kernel
theorem dX5_fewestMoves_66 : decode cX5_fewestMoves 66 = .ok (.iconst 1, 1) := by decide +kernel
theorem dX5_fewestMoves_67 : decode cX5_fewestMoves 67 = .ok (.iadd, 1) := by decide +kernel
theorem dX5_fewestMoves_68 : decode cX5_fewestMoves 68 = .ok (.iload_n 2, 1) := by decide +kernel
theorem dX5_fewestMoves_69 : decode cX5_fewestMoves 69 = .ok (.iload 4, 2) := by decide +kernel
theorem dX5_fewestMoves_71 : decode cX5_fewestMoves 71 = .ok (.iload_n 1, 1) := by decide +kernel
theorem dX5_fewestMoves_72 : decode cX5_fewestMoves 72 = .ok (.invokestatic 88, 3) := by decide +kernel
theorem dX5_fewestMoves_75 : decode cX5_fewestMoves 75 = .ok (.ior, 1) := by decide +kernel
theorem dX5_fewestMoves_76 : decode cX5_fewestMoves 76 = .ok (.invokestatic 49, 3) := by decide +kernel
theorem dX5_fewestMoves_79 : decode cX5_fewestMoves 79 = .ok (.iadd, 1) := by decide +kernel
theorem dX5_fewestMoves_80 : decode cX5_fewestMoves 80 = .ok (.istore 6, 2) := by decide +kernel
theorem dX5_fewestMoves_82 : decode cX5_fewestMoves 82 = .ok (.iload_n 3, 1) := by decide +kernel
theorem dX5_fewestMoves_83 : decode cX5_fewestMoves 83 = .ok (.iload 6, 2) := by decide +kernel
theorem dX5_fewestMoves_85 : decode cX5_fewestMoves 85 = .ok (.invokestatic 91, 3) := by decide +kernel
theorem dX5_fewestMoves_88 : decode cX5_fewestMoves 88 = .ok (.istore_n 3, 1) := by decide +kernel
theorem dX5_fewestMoves_89 : decode cX5_fewestMoves 89 = .ok (.iinc 4 1, 3) := by decide +kernel
theorem dX5_fewestMoves_92 : decode cX5_fewestMoves 92 = .ok (.goto (-63), 3) := by decide +kernel
theorem dX5_fewestMoves_95 : decode cX5_fewestMoves 95 = .ok (.iload_n 3, 1) := by decide +kernel
theorem dX5_fewestMoves_96 : decode cX5_fewestMoves 96 = .ok (.ireturn, 1) := by decide +kernel
theorem dX5_trainsIn_0 : decode cX5_trainsIn 0 = .ok (.iload_n 0, 1) := by decide +kernel
theorem dX5_trainsIn_1 : decode cX5_trainsIn 1 = .ok (.iload_n 1, 1) := by decide +kernel
theorem dX5_trainsIn_2 : decode cX5_trainsIn 2 = .ok (.bipush 8, 2) := by decide +kernel
theorem dX5_trainsIn_4 : decode cX5_trainsIn 4 = .ok (.imul, 1) := by decide +kernel
theorem dX5_trainsIn_5 : decode cX5_trainsIn 5 = .ok (.ishr, 1) := by decide +kernel
theorem dX5_trainsIn_6 : decode cX5_trainsIn 6 = .ok (.sipush 255, 3) := by decide +kernel
theorem dX5_trainsIn_9 : decode cX5_trainsIn 9 = .ok (.iand, 1) := by decide +kernel
theorem dX5_trainsIn_10 : decode cX5_trainsIn 10 = .ok (.ireturn, 1) := by decide +kernel
theorem dX5_bitOf_0 : decode cX5_bitOf 0 = .ok (.iconst 1, 1) := by decide +kernel
theorem dX5_bitOf_1 : decode cX5_bitOf 1 = .ok (.iload_n 0, 1) := by decide +kernel
theorem dX5_bitOf_2 : decode cX5_bitOf 2 = .ok (.bipush 8, 2) := by decide +kernel
theorem dX5_bitOf_4 : decode cX5_bitOf 4 = .ok (.imul, 1) := by decide +kernel
theorem dX5_bitOf_5 : decode cX5_bitOf 5 = .ok (.iload_n 1, 1) := by decide +kernel
theorem dX5_bitOf_6 : decode cX5_bitOf 6 = .ok (.iadd, 1) := by decide +kernel
theorem dX5_bitOf_7 : decode cX5_bitOf 7 = .ok (.ishl, 1) := by decide +kernel
theorem dX5_bitOf_8 : decode cX5_bitOf 8 = .ok (.ireturn, 1) := by decide +kernel
theorem dX5_roadIn_0 : decode cX5_roadIn 0 = .ok (.iconst 0, 1) := by decide +kernel
theorem dX5_roadIn_1 : decode cX5_roadIn 1 = .ok (.istore_n 2, 1) := by decide +kernel
theorem dX5_roadIn_2 : decode cX5_roadIn 2 = .ok (.iload_n 2, 1) := by decide +kernel
theorem dX5_roadIn_3 : decode cX5_roadIn 3 = .ok (.iconst 3, 1) := by decide +kernel
theorem dX5_roadIn_4 : decode cX5_roadIn 4 = .ok (.if_icmp .ge 21, 3) := by decide +kernel
theorem dX5_roadIn_7 : decode cX5_roadIn 7 = .ok (.iload_n 0, 1) := by decide +kernel
theorem dX5_roadIn_8 : decode cX5_roadIn 8 = .ok (.iload_n 2, 1) := by decide +kernel
theorem dX5_roadIn_9 : decode cX5_roadIn 9 = .ok (.iload_n 1, 1) := by decide +kernel
theorem dX5_roadIn_10 : decode cX5_roadIn 10 = .ok (.invokestatic 88, 3) := by decide +kernel
theorem dX5_roadIn_13 : decode cX5_roadIn 13 = .ok (.iand, 1) := by decide +kernel
theorem dX5_roadIn_14 : decode cX5_roadIn 14 = .ok (.ifCond .eq 5, 3) := by decide +kernel
theorem dX5_roadIn_17 : decode cX5_roadIn 17 = .ok (.iload_n 2, 1) := by decide +kernel
theorem dX5_roadIn_18 : decode cX5_roadIn 18 = .ok (.ireturn, 1) := by decide +kernel
theorem dX5_roadIn_19 : decode cX5_roadIn 19 = .ok (.iinc 2 1, 3) := by decide +kernel
theorem dX5_roadIn_22 : decode cX5_roadIn 22 = .ok (.goto (-20), 3) := by decide +kernel
theorem dX5_roadIn_25 : decode cX5_roadIn 25 = .ok (.iconst 0, 1) := by decide +kernel
theorem dX5_roadIn_26 : decode cX5_roadIn 26 = .ok (.ireturn, 1) := by decide +kernel
theorem dX6_init_0 : decode cX6_init 0 = .ok (.aload_n 0, 1) := by decide +kernel
theorem dX6_init_1 : decode cX6_init 1 = .ok (.invokespecial 1, 3) := by decide +kernel
theorem dX6_init_4 : decode cX6_init 4 = .ok (.aload_n 0, 1) := by decide +kernel
theorem dX6_init_5 : decode cX6_init 5 = .ok (.new 7, 3) := by decide +kernel
theorem dX6_init_8 : decode cX6_init 8 = .ok (.dup, 1) := by decide +kernel
theorem dX6_init_9 : decode cX6_init 9 = .ok (.invokespecial 9, 3) := by decide +kernel
theorem dX6_init_12 : decode cX6_init 12 = .ok (.putfield 10, 3) := by decide +kernel
theorem dX6_init_15 : decode cX6_init 15 = .ok (.aload_n 0, 1) := by decide +kernel
theorem dX6_init_16 : decode cX6_init 16 = .ok (.iconst 5, 1) := by decide +kernel
theorem dX6_init_17 : decode cX6_init 17 = .ok (.anewarray 16, 3) := by decide +kernel
theorem dX6_init_20 : decode cX6_init 20 = .ok (.putfield 18, 3) := by decide +kernel
theorem dX6_init_23 : decode cX6_init 23 = .ok (.aload_n 0, 1) := by decide +kernel
theorem dX6_init_24 : decode cX6_init 24 = .ok (.new 22, 3) := by decide +kernel
theorem dX6_init_27 : decode cX6_init 27 = .ok (.dup, 1) := by decide +kernel
theorem dX6_init_28 : decode cX6_init 28 = .ok (.invokespecial 24, 3) := by decide +kernel
theorem dX6_init_31 : decode cX6_init 31 = .ok (.putfield 25, 3) := by decide +kernel
theorem dX6_init_34 : decode cX6_init 34 = .ok (.aload_n 0, 1) := by decide +kernel
theorem dX6_init_35 : decode cX6_init 35 = .ok (.new 29, 3) := by decide +kernel
theorem dX6_init_38 : decode cX6_init 38 = .ok (.dup, 1) := by decide +kernel
theorem dX6_init_39 : decode cX6_init 39 = .ok (.invokespecial 31, 3) := by decide +kernel
theorem dX6_init_42 : decode cX6_init 42 = .ok (.putfield 32, 3) := by decide +kernel
theorem dX6_init_45 : decode cX6_init 45 = .ok (.iconst 0, 1) := by decide +kernel
theorem dX6_init_46 : decode cX6_init 46 = .ok (.istore_n 1, 1) := by decide +kernel
theorem dX6_init_47 : decode cX6_init 47 = .ok (.iload_n 1, 1) := by decide +kernel
theorem dX6_init_48 : decode cX6_init 48 = .ok (.aload_n 0, 1) := by decide +kernel
theorem dX6_init_49 : decode cX6_init 49 = .ok (.getfield 18, 3) := by decide +kernel
theorem dX6_init_52 : decode cX6_init 52 = .ok (.arraylength, 1) := by decide +kernel
theorem dX6_init_53 : decode cX6_init 53 = .ok (.if_icmp .ge 22, 3) := by decide +kernel
theorem dX6_init_56 : decode cX6_init 56 = .ok (.aload_n 0, 1) := by decide +kernel
theorem dX6_init_57 : decode cX6_init 57 = .ok (.getfield 18, 3) := by decide +kernel
theorem dX6_init_60 : decode cX6_init 60 = .ok (.iload_n 1, 1) := by decide +kernel
theorem dX6_init_61 : decode cX6_init 61 = .ok (.new 16, 3) := by decide +kernel
theorem dX6_init_64 : decode cX6_init 64 = .ok (.dup, 1) := by decide +kernel
theorem dX6_init_65 : decode cX6_init 65 = .ok (.invokespecial 36, 3) := by decide +kernel
theorem dX6_init_68 : decode cX6_init 68 = .ok (.aastore, 1) := by decide +kernel
theorem dX6_init_69 : decode cX6_init 69 = .ok (.iinc 1 1, 3) := by decide +kernel
theorem dX6_init_72 : decode cX6_init 72 = .ok (.goto (-25), 3) := by decide +kernel
theorem dX6_init_75 : decode cX6_init 75 = .ok (.return_, 1) := by decide +kernel
theorem dX6_part_0 : decode cX6_part 0 = .ok (.aload_n 0, 1) := by decide +kernel
theorem dX6_part_1 : decode cX6_part 1 = .ok (.iload_n 1, 1) := by decide +kernel
theorem dX6_part_2 : decode cX6_part 2 = .ok (.invokevirtual 37, 3) := by decide +kernel
theorem dX6_part_5 : decode cX6_part 5 = .ok (.astore 4, 2) := by decide +kernel
theorem dX6_part_7 : decode cX6_part 7 = .ok (.iload_n 2, 1) := by decide +kernel
theorem dX6_part_8 : decode cX6_part 8 = .ok (.iconst 0, 1) := by decide +kernel
theorem dX6_part_9 : decode cX6_part 9 = .ok (.bipush 9, 2) := by decide +kernel
theorem dX6_part_11 : decode cX6_part 11 = .ok (.invokestatic 41, 3) := by decide +kernel
theorem dX6_part_14 : decode cX6_part 14 = .ok (.ifCond .ne 12, 3) := by decide +kernel
theorem dX6_part_17 : decode cX6_part 17 = .ok (.iload_n 3, 1) := by decide +kernel
theorem dX6_part_18 : decode cX6_part 18 = .ok (.iconst 0, 1) := by decide +kernel
theorem dX6_part_19 : decode cX6_part 19 = .ok (.iconst 3, 1) := by decide +kernel
theorem dX6_part_20 : decode cX6_part 20 = .ok (.invokestatic 41, 3) := by decide +kernel
theorem dX6_part_23 : decode cX6_part 23 = .ok (.ifCond .eq 13, 3) := by decide +kernel
theorem dX6_part_26 : decode cX6_part 26 = .ok (.new 45, 3) := by decide +kernel
theorem dX6_part_29 : decode cX6_part 29 = .ok (.dup, 1) := by decide +kernel
theorem dX6_part_30 : decode cX6_part 30 = .ok (.ldc 47, 2) := by decide +kernel
theorem dX6_part_32 : decode cX6_part 32 = .ok (.invokespecial 49, 3) := by decide +kernel
theorem dX6_part_35 : decode cX6_part 35 = .ok (.athrow, 1) := by decide +kernel
theorem dX6_part_36 : decode cX6_part 36 = .ok (.aload_n 0, 1) := by decide +kernel
theorem dX6_part_37 : decode cX6_part 37 = .ok (.getfield 10, 3) := by decide +kernel
theorem dX6_part_40 : decode cX6_part 40 = .ok (.invokevirtual 52, 3) := by decide +kernel
theorem dX6_part_43 : decode cX6_part 43 = .ok (.istore 5, 2) := by decide +kernel
theorem dX6_part_45 : decode cX6_part 45 = .ok (.iload 5, 2) := by decide +kernel
theorem dX6_part_47 : decode cX6_part 47 = .ok (.bipush 60, 2) := by decide +kernel
theorem dX6_part_49 : decode cX6_part 49 = .ok (.if_icmp .lt 13, 3) := by decide +kernel
theorem dX6_part_52 : decode cX6_part 52 = .ok (.new 56, 3) := by decide +kernel
theorem dX6_part_55 : decode cX6_part 55 = .ok (.dup, 1) := by decide +kernel
theorem dX6_part_56 : decode cX6_part 56 = .ok (.ldc 58, 2) := by decide +kernel
theorem dX6_part_58 : decode cX6_part 58 = .ok (.invokespecial 60, 3) := by decide +kernel
theorem dX6_part_61 : decode cX6_part 61 = .ok (.athrow, 1) := by decide +kernel
theorem dX6_part_62 : decode cX6_part 62 = .ok (.aload_n 0, 1) := by decide +kernel
theorem dX6_part_63 : decode cX6_part 63 = .ok (.getfield 10, 3) := by decide +kernel
theorem dX6_part_66 : decode cX6_part 66 = .ok (.new 61, 3) := by decide +kernel
theorem dX6_part_69 : decode cX6_part 69 = .ok (.dup, 1) := by decide +kernel
theorem dX6_part_70 : decode cX6_part 70 = .ok (.iload 5, 2) := by decide +kernel
theorem dX6_part_72 : decode cX6_part 72 = .ok (.iload_n 1, 1) := by decide +kernel
theorem dX6_part_73 : decode cX6_part 73 = .ok (.iload_n 2, 1) := by decide +kernel
theorem dX6_part_74 : decode cX6_part 74 = .ok (.iload_n 3, 1) := by decide +kernel
theorem dX6_part_75 : decode cX6_part 75 = .ok (.aload 4, 2) := by decide +kernel
theorem dX6_part_77 : decode cX6_part 77 = .ok (.invokespecial 63, 3) := by decide +kernel
theorem dX6_part_80 : decode cX6_part 80 = .ok (.invokevirtual 66, 3) := by decide +kernel
theorem dX6_part_83 : decode cX6_part 83 = .ok (.pop, 1) := by decide +kernel
theorem dX6_part_84 : decode cX6_part 84 = .ok (.iload 5, 2) := by decide +kernel
theorem dX6_part_86 : decode cX6_part 86 = .ok (.ireturn, 1) := by decide +kernel
theorem dX6_limits_0 : decode cX6_limits 0 = .ok (.aload_n 0, 1) := by decide +kernel
theorem dX6_limits_1 : decode cX6_limits 1 = .ok (.iload_n 1, 1) := by decide +kernel
theorem dX6_limits_2 : decode cX6_limits 2 = .ok (.invokevirtual 37, 3) := by decide +kernel
theorem dX6_limits_5 : decode cX6_limits 5 = .ok (.astore 5, 2) := by decide +kernel
theorem dX6_limits_7 : decode cX6_limits 7 = .ok (.iload_n 2, 1) := by decide +kernel
theorem dX6_limits_8 : decode cX6_limits 8 = .ok (.iconst 0, 1) := by decide +kernel
theorem dX6_limits_9 : decode cX6_limits 9 = .ok (.ldc 70, 2) := by decide +kernel
theorem dX6_limits_11 : decode cX6_limits 11 = .ok (.invokestatic 41, 3) := by decide +kernel
theorem dX6_limits_14 : decode cX6_limits 14 = .ok (.ifCond .ne 24, 3) := by decide +kernel
theorem dX6_limits_17 : decode cX6_limits 17 = .ok (.iload_n 3, 1) := by decide +kernel
theorem dX6_limits_18 : decode cX6_limits 18 = .ok (.iconst 0, 1) := by decide +kernel
theorem dX6_limits_19 : decode cX6_limits 19 = .ok (.ldc 70, 2) := by decide +kernel
theorem dX6_limits_21 : decode cX6_limits 21 = .ok (.invokestatic 41, 3) := by decide +kernel
theorem dX6_limits_24 : decode cX6_limits 24 = .ok (.ifCond .ne 14, 3) := by decide +kernel
theorem dX6_limits_27 : decode cX6_limits 27 = .ok (.iload 4, 2) := by decide +kernel
theorem dX6_limits_29 : decode cX6_limits 29 = .ok (.iconst 0, 1) := by decide +kernel
theorem dX6_limits_30 : decode cX6_limits 30 = .ok (.ldc 70, 2) := by decide +kernel
theorem dX6_limits_32 : decode cX6_limits 32 = .ok (.invokestatic 41, 3) := by decide +kernel
theorem dX6_limits_35 : decode cX6_limits 35 = .ok (.ifCond .eq 13, 3) := by decide +kernel
theorem dX6_limits_38 : decode cX6_limits 38 = .ok (.new 45, 3) := by decide +kernel
theorem dX6_limits_41 : decode cX6_limits 41 = .ok (.dup, 1) := by decide +kernel
theorem dX6_limits_42 : decode cX6_limits 42 = .ok (.ldc 71, 2) := by decide +kernel
theorem dX6_limits_44 : decode cX6_limits 44 = .ok (.invokespecial 49, 3) := by decide +kernel
theorem dX6_limits_47 : decode cX6_limits 47 = .ok (.athrow, 1) := by decide +kernel
theorem dX6_limits_48 : decode cX6_limits 48 = .ok (.aload 5, 2) := by decide +kernel
theorem dX6_limits_50 : decode cX6_limits 50 = .ok (.getfield 73, 3) := by decide +kernel
theorem dX6_limits_53 : decode cX6_limits 53 = .ok (.istore 6, 2) := by decide +kernel
theorem dX6_limits_55 : decode cX6_limits 55 = .ok (.aload 5, 2) := by decide +kernel
theorem dX6_limits_57 : decode cX6_limits 57 = .ok (.iload_n 2, 1) := by decide +kernel
theorem dX6_limits_58 : decode cX6_limits 58 = .ok (.putfield 73, 3) := by decide +kernel
theorem dX6_limits_61 : decode cX6_limits 61 = .ok (.aload 5, 2) := by decide +kernel
theorem dX6_limits_63 : decode cX6_limits 63 = .ok (.iload_n 3, 1) := by decide +kernel
theorem dX6_limits_64 : decode cX6_limits 64 = .ok (.putfield 77, 3) := by decide +kernel
theorem dX6_limits_67 : decode cX6_limits 67 = .ok (.aload 5, 2) := by decide +kernel
theorem dX6_limits_69 : decode cX6_limits 69 = .ok (.iload 4, 2) := by decide +kernel
theorem dX6_limits_71 : decode cX6_limits 71 = .ok (.putfield 80, 3) := by decide +kernel
theorem dX6_limits_74 : decode cX6_limits 74 = .ok (.iload 6, 2) := by decide +kernel
theorem dX6_limits_76 : decode cX6_limits 76 = .ok (.ireturn, 1) := by decide +kernel
theorem dX6_fit_0 : decode cX6_fit 0 = .ok (.aload_n 0, 1) := by decide +kernel
theorem dX6_fit_1 : decode cX6_fit 1 = .ok (.iload_n 1, 1) := by decide +kernel
theorem dX6_fit_2 : decode cX6_fit 2 = .ok (.invokevirtual 83, 3) := by decide +kernel
theorem dX6_fit_5 : decode cX6_fit 5 = .ok (.astore_n 3, 1) := by decide +kernel
theorem dX6_fit_6 : decode cX6_fit 6 = .ok (.aload_n 0, 1) := by decide +kernel
theorem dX6_fit_7 : decode cX6_fit 7 = .ok (.iload_n 2, 1) := by decide +kernel
theorem dX6_fit_8 : decode cX6_fit 8 = .ok (.invokevirtual 83, 3) := by decide +kernel
theorem dX6_fit_11 : decode cX6_fit 11 = .ok (.astore 4, 2) := by decide +kernel
theorem dX6_fit_13 : decode cX6_fit 13 = .ok (.aload 4, 2) := by decide +kernel
theorem dX6_fit_15 : decode cX6_fit 15 = .ok (.getfield 87, 3) := by decide +kernel
theorem dX6_fit_18 : decode cX6_fit 18 = .ok (.aload_n 3, 1) := by decide +kernel
theorem dX6_fit_19 : decode cX6_fit 19 = .ok (.getfield 87, 3) := by decide +kernel
theorem dX6_fit_22 : decode cX6_fit 22 = .ok (.invokestatic 90, 3) := by decide +kernel
theorem dX6_fit_25 : decode cX6_fit 25 = .ok (.istore 5, 2) := by decide +kernel
theorem dX6_fit_27 : decode cX6_fit 27 = .ok (.iload 5, 2) := by decide +kernel
theorem dX6_fit_29 : decode cX6_fit 29 = .ok (.ifCond .ne 13, 3) := by decide +kernel
theorem dX6_fit_32 : decode cX6_fit 32 = .ok (.new 45, 3) := by decide +kernel
theorem dX6_fit_35 : decode cX6_fit 35 = .ok (.dup, 1) := by decide +kernel
theorem dX6_fit_36 : decode cX6_fit 36 = .ok (.ldc 94, 2) := by decide +kernel
theorem dX6_fit_38 : decode cX6_fit 38 = .ok (.invokespecial 49, 3) := by decide +kernel
theorem dX6_fit_41 : decode cX6_fit 41 = .ok (.athrow, 1) := by decide +kernel
theorem dX6_fit_42 : decode cX6_fit 42 = .ok (.aload_n 3, 1) := by decide +kernel
theorem dX6_fit_43 : decode cX6_fit 43 = .ok (.invokevirtual 96, 3) := by decide +kernel
theorem dX6_fit_46 : decode cX6_fit 46 = .ok (.ifCond .eq 10, 3) := by decide +kernel
theorem dX6_fit_49 : decode cX6_fit 49 = .ok (.aload_n 3, 1) := by decide +kernel
theorem dX6_fit_50 : decode cX6_fit 50 = .ok (.getfield 100, 3) := by decide +kernel
theorem dX6_fit_53 : decode cX6_fit 53 = .ok (.ifCond .eq 13, 3) := by decide +kernel
theorem dX6_fit_56 : decode cX6_fit 56 = .ok (.new 56, 3) := by decide +kernel
theorem dX6_fit_59 : decode cX6_fit 59 = .ok (.dup, 1) := by decide +kernel
theorem dX6_fit_60 : decode cX6_fit 60 = .ok (.ldc 104, 2) := by decide +kernel
theorem dX6_fit_62 : decode cX6_fit 62 = .ok (.invokespecial 60, 3) := by decide +kernel
theorem dX6_fit_65 : decode cX6_fit 65 = .ok (.athrow, 1) := by decide +kernel
theorem dX6_fit_66 : decode cX6_fit 66 = .ok (.aload 4, 2) := by decide +kernel
theorem dX6_fit_68 : decode cX6_fit 68 = .ok (.getfield 106, 3) := by decide +kernel
theorem dX6_fit_71 : decode cX6_fit 71 = .ok (.ifCond .ne 26, 3) := by decide +kernel
theorem dX6_fit_74 : decode cX6_fit 74 = .ok (.aload 4, 2) := by decide +kernel
theorem dX6_fit_76 : decode cX6_fit 76 = .ok (.invokevirtual 109, 3) := by decide +kernel
theorem dX6_fit_79 : decode cX6_fit 79 = .ok (.ifCond .ne 18, 3) := by decide +kernel
theorem dX6_fit_82 : decode cX6_fit 82 = .ok (.aload_n 0, 1) := by decide +kernel
theorem dX6_fit_83 : decode cX6_fit 83 = .ok (.aload 4, 2) := by decide +kernel
theorem dX6_fit_85 : decode cX6_fit 85 = .ok (.aload_n 3, 1) := by decide +kernel
theorem dX6_fit_86 : decode cX6_fit 86 = .ok (.getfield 87, 3) := by decide +kernel
theorem dX6_fit_89 : decode cX6_fit 89 = .ok (.invokevirtual 112, 3) := by decide +kernel
theorem dX6_fit_92 : decode cX6_fit 92 = .ok (.iload 5, 2) := by decide +kernel
theorem dX6_fit_94 : decode cX6_fit 94 = .ok (.if_icmp .lt 13, 3) := by decide +kernel
theorem dX6_fit_97 : decode cX6_fit 97 = .ok (.new 56, 3) := by decide +kernel
theorem dX6_fit_100 : decode cX6_fit 100 = .ok (.dup, 1) := by decide +kernel
theorem dX6_fit_101 : decode cX6_fit 101 = .ok (.ldc 116, 2) := by decide +kernel
theorem dX6_fit_103 : decode cX6_fit 103 = .ok (.invokespecial 60, 3) := by decide +kernel
theorem dX6_fit_106 : decode cX6_fit 106 = .ok (.athrow, 1) := by decide +kernel
theorem dX6_fit_107 : decode cX6_fit 107 = .ok (.aload_n 3, 1) := by decide +kernel
theorem dX6_fit_108 : decode cX6_fit 108 = .ok (.getfield 118, 3) := by decide +kernel
theorem dX6_fit_111 : decode cX6_fit 111 = .ok (.aload 4, 2) := by decide +kernel
theorem dX6_fit_113 : decode cX6_fit 113 = .ok (.getfield 118, 3) := by decide +kernel
theorem dX6_fit_116 : decode cX6_fit 116 = .ok (.isub, 1) := by decide +kernel
theorem dX6_fit_117 : decode cX6_fit 117 = .ok (.invokestatic 121, 3) := by decide +kernel
theorem dX6_fit_120 : decode cX6_fit 120 = .ok (.iconst 1, 1) := by decide +kernel
theorem dX6_fit_121 : decode cX6_fit 121 = .ok (.if_icmp .le 13, 3) := by decide +kernel
theorem dX6_fit_124 : decode cX6_fit 124 = .ok (.new 56, 3) := by decide +kernel
theorem dX6_fit_127 : decode cX6_fit 127 = .ok (.dup, 1) := by decide +kernel
theorem dX6_fit_128 : decode cX6_fit 128 = .ok (.ldc 127, 2) := by decide +kernel
theorem dX6_fit_130 : decode cX6_fit 130 = .ok (.invokespecial 60, 3) := by decide +kernel
theorem dX6_fit_133 : decode cX6_fit 133 = .ok (.athrow, 1) := by decide +kernel
theorem dX6_fit_134 : decode cX6_fit 134 = .ok (.aload_n 3, 1) := by decide +kernel
theorem dX6_fit_135 : decode cX6_fit 135 = .ok (.aload 4, 2) := by decide +kernel
theorem dX6_fit_137 : decode cX6_fit 137 = .ok (.putfield 129, 3) := by decide +kernel
theorem dX6_fit_140 : decode cX6_fit 140 = .ok (.aload_n 0, 1) := by decide +kernel
theorem dX6_fit_141 : decode cX6_fit 141 = .ok (.getfield 25, 3) := by decide +kernel
theorem dX6_fit_144 : decode cX6_fit 144 = .ok (.iload_n 1, 1) := by decide +kernel
theorem dX6_fit_145 : decode cX6_fit 145 = .ok (.iload_n 2, 1) := by decide +kernel
theorem dX6_fit_146 : decode cX6_fit 146 = .ok (.invokevirtual 133, 3) := by decide +kernel
theorem dX6_fit_149 : decode cX6_fit 149 = .ok (.aload 4, 2) := by decide +kernel
theorem dX6_fit_151 : decode cX6_fit 151 = .ok (.invokevirtual 137, 3) := by decide +kernel
theorem dX6_fit_154 : decode cX6_fit 154 = .ok (.iconst 0, 1) := by decide +kernel
theorem dX6_fit_155 : decode cX6_fit 155 = .ok (.putfield 141, 3) := by decide +kernel
theorem dX6_fit_158 : decode cX6_fit 158 = .ok (.aload_n 0, 1) := by decide +kernel
theorem dX6_fit_159 : decode cX6_fit 159 = .ok (.aload 4, 2) := by decide +kernel
theorem dX6_fit_161 : decode cX6_fit 161 = .ok (.invokevirtual 144, 3) := by decide +kernel
theorem dX6_fit_164 : decode cX6_fit 164 = .ok (.ireturn, 1) := by decide +kernel
theorem dX6_take_0 : decode cX6_take 0 = .ok (.aload_n 0, 1) := by decide +kernel
theorem dX6_take_1 : decode cX6_take 1 = .ok (.iload_n 1, 1) := by decide +kernel
theorem dX6_take_2 : decode cX6_take 2 = .ok (.invokevirtual 83, 3) := by decide +kernel
theorem dX6_take_5 : decode cX6_take 5 = .ok (.astore_n 2, 1) := by decide +kernel
theorem dX6_take_6 : decode cX6_take 6 = .ok (.aload_n 2, 1) := by decide +kernel
theorem dX6_take_7 : decode cX6_take 7 = .ok (.getfield 129, 3) := by decide +kernel
theorem dX6_take_10 : decode cX6_take 10 = .ok (.astore_n 3, 1) := by decide +kernel
theorem dX6_take_11 : decode cX6_take 11 = .ok (.aload_n 3, 1) := by decide +kernel
theorem dX6_take_12 : decode cX6_take 12 = .ok (.ifnull 10, 3) := by decide +kernel
theorem dX6_take_15 : decode cX6_take 15 = .ok (.aload_n 2, 1) := by decide +kernel
theorem dX6_take_16 : decode cX6_take 16 = .ok (.invokevirtual 109, 3) := by decide +kernel
theorem dX6_take_19 : decode cX6_take 19 = .ok (.ifCond .eq 13, 3) := by decide +kernel
theorem dX6_take_22 : decode cX6_take 22 = .ok (.new 56, 3) := by decide +kernel
theorem dX6_take_25 : decode cX6_take 25 = .ok (.dup, 1) := by decide +kernel
theorem dX6_take_26 : decode cX6_take 26 = .ok (.ldc 147, 2) := by decide +kernel
theorem dX6_take_28 : decode cX6_take 28 = .ok (.invokespecial 60, 3) := by decide +kernel
theorem dX6_take_31 : decode cX6_take 31 = .ok (.athrow, 1) := by decide +kernel
theorem dX6_take_32 : decode cX6_take 32 = .ok (.aload_n 3, 1) := by decide +kernel
theorem dX6_take_33 : decode cX6_take 33 = .ok (.invokevirtual 137, 3) := by decide +kernel
theorem dX6_take_36 : decode cX6_take 36 = .ok (.iconst 0, 1) := by decide +kernel
theorem dX6_take_37 : decode cX6_take 37 = .ok (.putfield 141, 3) := by decide +kernel
theorem dX6_take_40 : decode cX6_take 40 = .ok (.aload_n 2, 1) := by decide +kernel
theorem dX6_take_41 : decode cX6_take 41 = .ok (.aconst_null, 1) := by decide +kernel
theorem dX6_take_42 : decode cX6_take 42 = .ok (.putfield 129, 3) := by decide +kernel
theorem dX6_take_45 : decode cX6_take 45 = .ok (.aload_n 0, 1) := by decide +kernel
theorem dX6_take_46 : decode cX6_take 46 = .ok (.getfield 25, 3) := by decide +kernel
theorem dX6_take_49 : decode cX6_take 49 = .ok (.iload_n 1, 1) := by decide +kernel
theorem dX6_take_50 : decode cX6_take 50 = .ok (.iconst (-1), 1) := by decide +kernel
theorem dX6_take_51 : decode cX6_take 51 = .ok (.invokevirtual 133, 3) := by decide +kernel
theorem dX6_take_54 : decode cX6_take 54 = .ok (.aload_n 3, 1) := by decide +kernel
theorem dX6_take_55 : decode cX6_take 55 = .ok (.getfield 149, 3) := by decide +kernel
theorem dX6_take_58 : decode cX6_take 58 = .ok (.ireturn, 1) := by decide +kernel
theorem dX6_scrap_0 : decode cX6_scrap 0 = .ok (.aload_n 0, 1) := by decide +kernel
theorem dX6_scrap_1 : decode cX6_scrap 1 = .ok (.iload_n 1, 1) := by decide +kernel
theorem dX6_scrap_2 : decode cX6_scrap 2 = .ok (.invokevirtual 83, 3) := by decide +kernel
theorem dX6_scrap_5 : decode cX6_scrap 5 = .ok (.astore_n 2, 1) := by decide +kernel
theorem dX6_scrap_6 : decode cX6_scrap 6 = .ok (.aload_n 2, 1) := by decide +kernel
theorem dX6_scrap_7 : decode cX6_scrap 7 = .ok (.invokevirtual 96, 3) := by decide +kernel
theorem dX6_scrap_10 : decode cX6_scrap 10 = .ok (.ifCond .eq 11, 3) := by decide +kernel
theorem dX6_scrap_13 : decode cX6_scrap 13 = .ok (.aload_n 0, 1) := by decide +kernel
theorem dX6_scrap_14 : decode cX6_scrap 14 = .ok (.aload_n 2, 1) := by decide +kernel
theorem dX6_scrap_15 : decode cX6_scrap 15 = .ok (.invokevirtual 144, 3) := by decide +kernel
theorem dX6_scrap_18 : decode cX6_scrap 18 = .ok (.ifCond .le 13, 3) := by decide +kernel
theorem dX6_scrap_21 : decode cX6_scrap 21 = .ok (.new 56, 3) := by decide +kernel
theorem dX6_scrap_24 : decode cX6_scrap 24 = .ok (.dup, 1) := by decide +kernel
theorem dX6_scrap_25 : decode cX6_scrap 25 = .ok (.ldc 152, 2) := by decide +kernel
theorem dX6_scrap_27 : decode cX6_scrap 27 = .ok (.invokespecial 60, 3) := by decide +kernel
theorem dX6_scrap_30 : decode cX6_scrap 30 = .ok (.athrow, 1) := by decide +kernel
theorem dX6_scrap_31 : decode cX6_scrap 31 = .ok (.aload_n 2, 1) := by decide +kernel
theorem dX6_scrap_32 : decode cX6_scrap 32 = .ok (.invokevirtual 109, 3) := by decide +kernel
theorem dX6_scrap_35 : decode cX6_scrap 35 = .ok (.ifCond .ne 14, 3) := by decide +kernel
theorem dX6_scrap_38 : decode cX6_scrap 38 = .ok (.aload_n 0, 1) := by decide +kernel
theorem dX6_scrap_39 : decode cX6_scrap 39 = .ok (.getfield 32, 3) := by decide +kernel
theorem dX6_scrap_42 : decode cX6_scrap 42 = .ok (.aload_n 2, 1) := by decide +kernel
theorem dX6_scrap_43 : decode cX6_scrap 43 = .ok (.invokevirtual 154, 3) := by decide +kernel
theorem dX6_scrap_46 : decode cX6_scrap 46 = .ok (.ifCond .eq 13, 3) := by decide +kernel
theorem dX6_scrap_49 : decode cX6_scrap 49 = .ok (.new 56, 3) := by decide +kernel
theorem dX6_scrap_52 : decode cX6_scrap 52 = .ok (.dup, 1) := by decide +kernel
theorem dX6_scrap_53 : decode cX6_scrap 53 = .ok (.ldc 158, 2) := by decide +kernel
theorem dX6_scrap_55 : decode cX6_scrap 55 = .ok (.invokespecial 60, 3) := by decide +kernel
theorem dX6_scrap_58 : decode cX6_scrap 58 = .ok (.athrow, 1) := by decide +kernel
theorem dX6_scrap_59 : decode cX6_scrap 59 = .ok (.aload_n 2, 1) := by decide +kernel
theorem dX6_scrap_60 : decode cX6_scrap 60 = .ok (.iconst 1, 1) := by decide +kernel
theorem dX6_scrap_61 : decode cX6_scrap 61 = .ok (.putfield 106, 3) := by decide +kernel
theorem dX6_scrap_64 : decode cX6_scrap 64 = .ok (.aload_n 0, 1) := by decide +kernel
theorem dX6_scrap_65 : decode cX6_scrap 65 = .ok (.getfield 25, 3) := by decide +kernel
theorem dX6_scrap_68 : decode cX6_scrap 68 = .ok (.iload_n 1, 1) := by decide +kernel
theorem dX6_scrap_69 : decode cX6_scrap 69 = .ok (.bipush (-2), 2) := by decide +kernel
theorem dX6_scrap_71 : decode cX6_scrap 71 = .ok (.invokevirtual 133, 3) := by decide +kernel
theorem dX6_scrap_74 : decode cX6_scrap 74 = .ok (.return_, 1) := by decide +kernel
theorem dX6_run_0 : decode cX6_run 0 = .ok (.aload_n 0, 1) := by decide +kernel
theorem dX6_run_1 : decode cX6_run 1 = .ok (.iload_n 1, 1) := by decide +kernel
theorem dX6_run_2 : decode cX6_run 2 = .ok (.invokevirtual 160, 3) := by decide +kernel
theorem dX6_run_5 : decode cX6_run 5 = .ok (.astore 4, 2) := by decide +kernel
theorem dX6_run_7 : decode cX6_run 7 = .ok (.iload_n 2, 1) := by decide +kernel
theorem dX6_run_8 : decode cX6_run 8 = .ok (.iload_n 3, 1) := by decide +kernel
theorem dX6_run_9 : decode cX6_run 9 = .ok (.invokestatic 163, 3) := by decide +kernel
theorem dX6_run_12 : decode cX6_run 12 = .ok (.aload 4, 2) := by decide +kernel
theorem dX6_run_14 : decode cX6_run 14 = .ok (.getfield 141, 3) := by decide +kernel
theorem dX6_run_17 : decode cX6_run 17 = .ok (.ifCond .eq 11, 3) := by decide +kernel
theorem dX6_run_20 : decode cX6_run 20 = .ok (.aload 4, 2) := by decide +kernel
theorem dX6_run_22 : decode cX6_run 22 = .ok (.invokevirtual 109, 3) := by decide +kernel
theorem dX6_run_25 : decode cX6_run 25 = .ok (.ifCond .eq 13, 3) := by decide +kernel
theorem dX6_run_28 : decode cX6_run 28 = .ok (.new 56, 3) := by decide +kernel
theorem dX6_run_31 : decode cX6_run 31 = .ok (.dup, 1) := by decide +kernel
theorem dX6_run_32 : decode cX6_run 32 = .ok (.ldc 166, 2) := by decide +kernel
theorem dX6_run_34 : decode cX6_run 34 = .ok (.invokespecial 60, 3) := by decide +kernel
theorem dX6_run_37 : decode cX6_run 37 = .ok (.athrow, 1) := by decide +kernel
theorem dX6_run_38 : decode cX6_run 38 = .ok (.aload 4, 2) := by decide +kernel
theorem dX6_run_40 : decode cX6_run 40 = .ok (.iconst 0, 1) := by decide +kernel
theorem dX6_run_41 : decode cX6_run 41 = .ok (.putfield 141, 3) := by decide +kernel
theorem dX6_run_44 : decode cX6_run 44 = .ok (.aload_n 0, 1) := by decide +kernel
theorem dX6_run_45 : decode cX6_run 45 = .ok (.getfield 25, 3) := by decide +kernel
theorem dX6_run_48 : decode cX6_run 48 = .ok (.iload_n 1, 1) := by decide +kernel
theorem dX6_run_49 : decode cX6_run 49 = .ok (.iload_n 2, 1) := by decide +kernel
theorem dX6_run_50 : decode cX6_run 50 = .ok (.invokevirtual 168, 3) := by decide +kernel
theorem dX6_run_53 : decode cX6_run 53 = .ok (.iconst (-1), 1) := by decide +kernel
theorem dX6_run_54 : decode cX6_run 54 = .ok (.istore 5, 2) := by decide +kernel
theorem dX6_run_56 : decode cX6_run 56 = .ok (.iconst 0, 1) := by decide +kernel
theorem dX6_run_57 : decode cX6_run 57 = .ok (.istore 6, 2) := by decide +kernel
theorem dX6_run_59 : decode cX6_run 59 = .ok (.iload 6, 2) := by decide +kernel
theorem dX6_run_61 : decode cX6_run 61 = .ok (.aload_n 0, 1) := by decide +kernel
theorem dX6_run_62 : decode cX6_run 62 = .ok (.getfield 10, 3) := by decide +kernel
theorem dX6_run_65 : decode cX6_run 65 = .ok (.invokevirtual 52, 3) := by decide +kernel
theorem dX6_run_68 : decode cX6_run 68 = .ok (.if_icmp .ge 65, 3) := by decide +kernel
theorem dX6_run_71 : decode cX6_run 71 = .ok (.aload_n 0, 1) := by decide +kernel
theorem dX6_run_72 : decode cX6_run 72 = .ok (.getfield 10, 3) := by decide +kernel
theorem dX6_run_75 : decode cX6_run 75 = .ok (.iload 6, 2) := by decide +kernel
theorem dX6_run_77 : decode cX6_run 77 = .ok (.invokevirtual 171, 3) := by decide +kernel
theorem dX6_run_80 : decode cX6_run 80 = .ok (.checkcast 61, 3) := by decide +kernel
theorem dX6_run_83 : decode cX6_run 83 = .ok (.astore 7, 2) := by decide +kernel
theorem dX6_run_85 : decode cX6_run 85 = .ok (.aload 7, 2) := by decide +kernel
theorem dX6_run_87 : decode cX6_run 87 = .ok (.invokevirtual 137, 3) := by decide +kernel
theorem dX6_run_90 : decode cX6_run 90 = .ok (.aload 4, 2) := by decide +kernel
theorem dX6_run_92 : decode cX6_run 92 = .ok (.if_acmp .ne 35, 3) := by decide +kernel
theorem dX6_run_95 : decode cX6_run 95 = .ok (.aload 7, 2) := by decide +kernel
theorem dX6_run_97 : decode cX6_run 97 = .ok (.iload_n 2, 1) := by decide +kernel
theorem dX6_run_98 : decode cX6_run 98 = .ok (.iload_n 2, 1) := by decide +kernel
theorem dX6_run_99 : decode cX6_run 99 = .ok (.iload_n 3, 1) := by decide +kernel
theorem dX6_run_100 : decode cX6_run 100 = .ok (.invokestatic 175, 3) := by decide +kernel
theorem dX6_run_103 : decode cX6_run 103 = .ok (.imul, 1) := by decide +kernel
theorem dX6_run_104 : decode cX6_run 104 = .ok (.invokevirtual 178, 3) := by decide +kernel
theorem dX6_run_107 : decode cX6_run 107 = .ok (.iload 5, 2) := by decide +kernel
theorem dX6_run_109 : decode cX6_run 109 = .ok (.iconst (-1), 1) := by decide +kernel
theorem dX6_run_110 : decode cX6_run 110 = .ok (.if_icmp .ne 17, 3) := by decide +kernel
theorem dX6_run_113 : decode cX6_run 113 = .ok (.aload 7, 2) := by decide +kernel
theorem dX6_run_115 : decode cX6_run 115 = .ok (.getfield 181, 3) := by decide +kernel
theorem dX6_run_118 : decode cX6_run 118 = .ok (.bipush 100, 2) := by decide +kernel
theorem dX6_run_120 : decode cX6_run 120 = .ok (.if_icmp .lt 7, 3) := by decide +kernel
theorem dX6_run_123 : decode cX6_run 123 = .ok (.iload 6, 2) := by decide +kernel
theorem dX6_run_125 : decode cX6_run 125 = .ok (.istore 5, 2) := by decide +kernel
theorem dX6_run_127 : decode cX6_run 127 = .ok (.iinc 6 1, 3) := by decide +kernel
theorem dX6_run_130 : decode cX6_run 130 = .ok (.goto (-71), 3) := by decide +kernel
theorem dX6_run_133 : decode cX6_run 133 = .ok (.iload 5, 2) := by decide +kernel
theorem dX6_run_135 : decode cX6_run 135 = .ok (.iconst (-1), 1) := by decide +kernel
theorem dX6_run_136 : decode cX6_run 136 = .ok (.if_icmp .eq 9, 3) := by decide +kernel
theorem dX6_run_139 : decode cX6_run 139 = .ok (.aload_n 0, 1) := by decide +kernel
theorem dX6_run_140 : decode cX6_run 140 = .ok (.aload 4, 2) := by decide +kernel
theorem dX6_run_142 : decode cX6_run 142 = .ok (.invokevirtual 184, 3) := by decide +kernel
theorem dX6_run_145 : decode cX6_run 145 = .ok (.iload 5, 2) := by decide +kernel
theorem dX6_run_147 : decode cX6_run 147 = .ok (.ireturn, 1) := by decide +kernel
theorem dX6_turn_0 : decode cX6_turn 0 = .ok (.aload_n 0, 1) := by decide +kernel
theorem dX6_turn_1 : decode cX6_turn 1 = .ok (.iload_n 1, 1) := by decide +kernel
theorem dX6_turn_2 : decode cX6_turn 2 = .ok (.invokevirtual 83, 3) := by decide +kernel
theorem dX6_turn_5 : decode cX6_turn 5 = .ok (.astore_n 2, 1) := by decide +kernel
theorem dX6_turn_6 : decode cX6_turn 6 = .ok (.aload_n 2, 1) := by decide +kernel
theorem dX6_turn_7 : decode cX6_turn 7 = .ok (.getfield 87, 3) := by decide +kernel
theorem dX6_turn_10 : decode cX6_turn 10 = .ok (.iconst 2, 1) := by decide +kernel
theorem dX6_turn_11 : decode cX6_turn 11 = .ok (.if_icmp .eq 13, 3) := by decide +kernel
theorem dX6_turn_14 : decode cX6_turn 14 = .ok (.new 45, 3) := by decide +kernel
theorem dX6_turn_17 : decode cX6_turn 17 = .ok (.dup, 1) := by decide +kernel
theorem dX6_turn_18 : decode cX6_turn 18 = .ok (.ldc 188, 2) := by decide +kernel
theorem dX6_turn_20 : decode cX6_turn 20 = .ok (.invokespecial 49, 3) := by decide +kernel
theorem dX6_turn_23 : decode cX6_turn 23 = .ok (.athrow, 1) := by decide +kernel
theorem dX6_turn_24 : decode cX6_turn 24 = .ok (.aload_n 0, 1) := by decide +kernel
theorem dX6_turn_25 : decode cX6_turn 25 = .ok (.aload_n 2, 1) := by decide +kernel
theorem dX6_turn_26 : decode cX6_turn 26 = .ok (.iconst 0, 1) := by decide +kernel
theorem dX6_turn_27 : decode cX6_turn 27 = .ok (.invokevirtual 190, 3) := by decide +kernel
theorem dX6_turn_30 : decode cX6_turn 30 = .ok (.astore_n 3, 1) := by decide +kernel
theorem dX6_turn_31 : decode cX6_turn 31 = .ok (.aload_n 0, 1) := by decide +kernel
theorem dX6_turn_32 : decode cX6_turn 32 = .ok (.aload_n 2, 1) := by decide +kernel
theorem dX6_turn_33 : decode cX6_turn 33 = .ok (.iconst 1, 1) := by decide +kernel
theorem dX6_turn_34 : decode cX6_turn 34 = .ok (.invokevirtual 190, 3) := by decide +kernel
theorem dX6_turn_37 : decode cX6_turn 37 = .ok (.astore 4, 2) := by decide +kernel
theorem dX6_turn_39 : decode cX6_turn 39 = .ok (.aload_n 3, 1) := by decide +kernel
theorem dX6_turn_40 : decode cX6_turn 40 = .ok (.ifnull 15, 3) := by decide +kernel
theorem dX6_turn_43 : decode cX6_turn 43 = .ok (.aload 4, 2) := by decide +kernel
theorem dX6_turn_45 : decode cX6_turn 45 = .ok (.ifnull 10, 3) := by decide +kernel
theorem dX6_turn_48 : decode cX6_turn 48 = .ok (.aload_n 2, 1) := by decide +kernel
theorem dX6_turn_49 : decode cX6_turn 49 = .ok (.invokevirtual 109, 3) := by decide +kernel
theorem dX6_turn_52 : decode cX6_turn 52 = .ok (.ifCond .eq 13, 3) := by decide +kernel
theorem dX6_turn_55 : decode cX6_turn 55 = .ok (.new 56, 3) := by decide +kernel
theorem dX6_turn_58 : decode cX6_turn 58 = .ok (.dup, 1) := by decide +kernel
theorem dX6_turn_59 : decode cX6_turn 59 = .ok (.ldc 194, 2) := by decide +kernel
theorem dX6_turn_61 : decode cX6_turn 61 = .ok (.invokespecial 60, 3) := by decide +kernel
theorem dX6_turn_64 : decode cX6_turn 64 = .ok (.athrow, 1) := by decide +kernel
theorem dX6_turn_65 : decode cX6_turn 65 = .ok (.aload_n 3, 1) := by decide +kernel
theorem dX6_turn_66 : decode cX6_turn 66 = .ok (.getfield 196, 3) := by decide +kernel
theorem dX6_turn_69 : decode cX6_turn 69 = .ok (.aload 4, 2) := by decide +kernel
theorem dX6_turn_71 : decode cX6_turn 71 = .ok (.getfield 196, 3) := by decide +kernel
theorem dX6_turn_74 : decode cX6_turn 74 = .ok (.iadd, 1) := by decide +kernel
theorem dX6_turn_75 : decode cX6_turn 75 = .ok (.istore 5, 2) := by decide +kernel
theorem dX6_turn_77 : decode cX6_turn 77 = .ok (.aload_n 3, 1) := by decide +kernel
theorem dX6_turn_78 : decode cX6_turn 78 = .ok (.invokevirtual 201, 3) := by decide +kernel
theorem dX6_turn_81 : decode cX6_turn 81 = .ok (.aload 4, 2) := by decide +kernel
theorem dX6_turn_83 : decode cX6_turn 83 = .ok (.invokevirtual 201, 3) := by decide +kernel
theorem dX6_turn_86 : decode cX6_turn 86 = .ok (.aload_n 3, 1) := by decide +kernel
theorem dX6_turn_87 : decode cX6_turn 87 = .ok (.getfield 196, 3) := by decide +kernel
theorem dX6_turn_90 : decode cX6_turn 90 = .ok (.aload 4, 2) := by decide +kernel
theorem dX6_turn_92 : decode cX6_turn 92 = .ok (.getfield 196, 3) := by decide +kernel
theorem dX6_turn_95 : decode cX6_turn 95 = .ok (.invokestatic 204, 3) := by decide +kernel
theorem dX6_turn_98 : decode cX6_turn 98 = .ok (.istore 6, 2) := by decide +kernel
theorem dX6_turn_100 : decode cX6_turn 100 = .ok (.aload_n 3, 1) := by decide +kernel
theorem dX6_turn_101 : decode cX6_turn 101 = .ok (.iload 6, 2) := by decide +kernel
theorem dX6_turn_103 : decode cX6_turn 103 = .ok (.putfield 196, 3) := by decide +kernel
theorem dX6_turn_106 : decode cX6_turn 106 = .ok (.aload 4, 2) := by decide +kernel
theorem dX6_turn_108 : decode cX6_turn 108 = .ok (.iload 6, 2) := by decide +kernel
theorem dX6_turn_110 : decode cX6_turn 110 = .ok (.putfield 196, 3) := by decide +kernel
theorem dX6_turn_113 : decode cX6_turn 113 = .ok (.iload 5, 2) := by decide +kernel
theorem dX6_turn_115 : decode cX6_turn 115 = .ok (.iconst 2, 1) := by decide +kernel
theorem dX6_turn_116 : decode cX6_turn 116 = .ok (.iload 6, 2) := by decide +kernel
theorem dX6_turn_118 : decode cX6_turn 118 = .ok (.imul, 1) := by decide +kernel
theorem dX6_turn_119 : decode cX6_turn 119 = .ok (.isub, 1) := by decide +kernel
theorem dX6_turn_120 : decode cX6_turn 120 = .ok (.ireturn, 1) := by decide +kernel
theorem dX6_gate_0 : decode cX6_gate 0 = .ok (.aload_n 0, 1) := by decide +kernel
theorem dX6_gate_1 : decode cX6_gate 1 = .ok (.iload_n 1, 1) := by decide +kernel
theorem dX6_gate_2 : decode cX6_gate 2 = .ok (.invokevirtual 207, 3) := by decide +kernel
theorem dX6_gate_5 : decode cX6_gate 5 = .ok (.astore_n 3, 1) := by decide +kernel
theorem dX6_gate_6 : decode cX6_gate 6 = .ok (.iload_n 2, 1) := by decide +kernel
theorem dX6_gate_7 : decode cX6_gate 7 = .ok (.bipush (-5), 2) := by decide +kernel
theorem dX6_gate_9 : decode cX6_gate 9 = .ok (.iconst 5, 1) := by decide +kernel
theorem dX6_gate_10 : decode cX6_gate 10 = .ok (.invokestatic 41, 3) := by decide +kernel
theorem dX6_gate_13 : decode cX6_gate 13 = .ok (.ifCond .eq 13, 3) := by decide +kernel
theorem dX6_gate_16 : decode cX6_gate 16 = .ok (.new 45, 3) := by decide +kernel
theorem dX6_gate_19 : decode cX6_gate 19 = .ok (.dup, 1) := by decide +kernel
theorem dX6_gate_20 : decode cX6_gate 20 = .ok (.ldc 211, 2) := by decide +kernel
theorem dX6_gate_22 : decode cX6_gate 22 = .ok (.invokespecial 49, 3) := by decide +kernel
theorem dX6_gate_25 : decode cX6_gate 25 = .ok (.athrow, 1) := by decide +kernel
theorem dX6_gate_26 : decode cX6_gate 26 = .ok (.aload_n 3, 1) := by decide +kernel
theorem dX6_gate_27 : decode cX6_gate 27 = .ok (.aload_n 3, 1) := by decide +kernel
theorem dX6_gate_28 : decode cX6_gate 28 = .ok (.getfield 213, 3) := by decide +kernel
theorem dX6_gate_31 : decode cX6_gate 31 = .ok (.iload_n 2, 1) := by decide +kernel
theorem dX6_gate_32 : decode cX6_gate 32 = .ok (.iadd, 1) := by decide +kernel
theorem dX6_gate_33 : decode cX6_gate 33 = .ok (.putfield 216, 3) := by decide +kernel
theorem dX6_gate_36 : decode cX6_gate 36 = .ok (.aload_n 3, 1) := by decide +kernel
theorem dX6_gate_37 : decode cX6_gate 37 = .ok (.getfield 216, 3) := by decide +kernel
theorem dX6_gate_40 : decode cX6_gate 40 = .ok (.ireturn, 1) := by decide +kernel
theorem dX6_examine_0 : decode cX6_examine 0 = .ok (.aload_n 0, 1) := by decide +kernel
theorem dX6_examine_1 : decode cX6_examine 1 = .ok (.iload_n 1, 1) := by decide +kernel
theorem dX6_examine_2 : decode cX6_examine 2 = .ok (.invokevirtual 83, 3) := by decide +kernel
theorem dX6_examine_5 : decode cX6_examine 5 = .ok (.astore_n 2, 1) := by decide +kernel
theorem dX6_examine_6 : decode cX6_examine 6 = .ok (.aload_n 2, 1) := by decide +kernel
theorem dX6_examine_7 : decode cX6_examine 7 = .ok (.invokevirtual 219, 3) := by decide +kernel
theorem dX6_examine_10 : decode cX6_examine 10 = .ok (.ifCond .eq 17, 3) := by decide +kernel
theorem dX6_examine_13 : decode cX6_examine 13 = .ok (.aload_n 2, 1) := by decide +kernel
theorem dX6_examine_14 : decode cX6_examine 14 = .ok (.getfield 106, 3) := by decide +kernel
theorem dX6_examine_17 : decode cX6_examine 17 = .ok (.ifCond .ne 10, 3) := by decide +kernel
theorem dX6_examine_20 : decode cX6_examine 20 = .ok (.aload_n 2, 1) := by decide +kernel
theorem dX6_examine_21 : decode cX6_examine 21 = .ok (.invokevirtual 109, 3) := by decide +kernel
theorem dX6_examine_24 : decode cX6_examine 24 = .ok (.ifCond .eq 13, 3) := by decide +kernel
theorem dX6_examine_27 : decode cX6_examine 27 = .ok (.new 56, 3) := by decide +kernel
theorem dX6_examine_30 : decode cX6_examine 30 = .ok (.dup, 1) := by decide +kernel
theorem dX6_examine_31 : decode cX6_examine 31 = .ok (.ldc 222, 2) := by decide +kernel
theorem dX6_examine_33 : decode cX6_examine 33 = .ok (.invokespecial 60, 3) := by decide +kernel
theorem dX6_examine_36 : decode cX6_examine 36 = .ok (.athrow, 1) := by decide +kernel
theorem dX6_examine_37 : decode cX6_examine 37 = .ok (.aload_n 2, 1) := by decide +kernel
theorem dX6_examine_38 : decode cX6_examine 38 = .ok (.getfield 224, 3) := by decide +kernel
theorem dX6_examine_41 : decode cX6_examine 41 = .ok (.istore_n 3, 1) := by decide +kernel
theorem dX6_examine_42 : decode cX6_examine 42 = .ok (.aload_n 2, 1) := by decide +kernel
theorem dX6_examine_43 : decode cX6_examine 43 = .ok (.iconst 0, 1) := by decide +kernel
theorem dX6_examine_44 : decode cX6_examine 44 = .ok (.putfield 224, 3) := by decide +kernel
theorem dX6_examine_47 : decode cX6_examine 47 = .ok (.aload_n 2, 1) := by decide +kernel
theorem dX6_examine_48 : decode cX6_examine 48 = .ok (.iconst 0, 1) := by decide +kernel
theorem dX6_examine_49 : decode cX6_examine 49 = .ok (.putfield 227, 3) := by decide +kernel
theorem dX6_examine_52 : decode cX6_examine 52 = .ok (.iload_n 3, 1) := by decide +kernel
theorem dX6_examine_53 : decode cX6_examine 53 = .ok (.ireturn, 1) := by decide +kernel
theorem dX6_waive_0 : decode cX6_waive 0 = .ok (.aload_n 0, 1) := by decide +kernel
theorem dX6_waive_1 : decode cX6_waive 1 = .ok (.iload_n 1, 1) := by decide +kernel
theorem dX6_waive_2 : decode cX6_waive 2 = .ok (.invokevirtual 83, 3) := by decide +kernel
theorem dX6_waive_5 : decode cX6_waive 5 = .ok (.astore_n 3, 1) := by decide +kernel
theorem dX6_waive_6 : decode cX6_waive 6 = .ok (.iload_n 2, 1) := by decide +kernel
theorem dX6_waive_7 : decode cX6_waive 7 = .ok (.iconst 1, 1) := by decide +kernel
theorem dX6_waive_8 : decode cX6_waive 8 = .ok (.sipush 999, 3) := by decide +kernel
theorem dX6_waive_11 : decode cX6_waive 11 = .ok (.invokestatic 41, 3) := by decide +kernel
theorem dX6_waive_14 : decode cX6_waive 14 = .ok (.ifCond .eq 13, 3) := by decide +kernel
theorem dX6_waive_17 : decode cX6_waive 17 = .ok (.new 45, 3) := by decide +kernel
theorem dX6_waive_20 : decode cX6_waive 20 = .ok (.dup, 1) := by decide +kernel
theorem dX6_waive_21 : decode cX6_waive 21 = .ok (.ldc 230, 2) := by decide +kernel
theorem dX6_waive_23 : decode cX6_waive 23 = .ok (.invokespecial 49, 3) := by decide +kernel
theorem dX6_waive_26 : decode cX6_waive 26 = .ok (.athrow, 1) := by decide +kernel
theorem dX6_waive_27 : decode cX6_waive 27 = .ok (.aload_n 3, 1) := by decide +kernel
theorem dX6_waive_28 : decode cX6_waive 28 = .ok (.getfield 232, 3) := by decide +kernel
theorem dX6_waive_31 : decode cX6_waive 31 = .ok (.getfield 77, 3) := by decide +kernel
theorem dX6_waive_34 : decode cX6_waive 34 = .ok (.ifCond .eq 10, 3) := by decide +kernel
theorem dX6_waive_37 : decode cX6_waive 37 = .ok (.aload_n 3, 1) := by decide +kernel
theorem dX6_waive_38 : decode cX6_waive 38 = .ok (.getfield 227, 3) := by decide +kernel
theorem dX6_waive_41 : decode cX6_waive 41 = .ok (.ifCond .le 13, 3) := by decide +kernel
theorem dX6_waive_44 : decode cX6_waive 44 = .ok (.new 56, 3) := by decide +kernel
theorem dX6_waive_47 : decode cX6_waive 47 = .ok (.dup, 1) := by decide +kernel
theorem dX6_waive_48 : decode cX6_waive 48 = .ok (.ldc 236, 2) := by decide +kernel
theorem dX6_waive_50 : decode cX6_waive 50 = .ok (.invokespecial 60, 3) := by decide +kernel
theorem dX6_waive_53 : decode cX6_waive 53 = .ok (.athrow, 1) := by decide +kernel
theorem dX6_waive_54 : decode cX6_waive 54 = .ok (.aload_n 3, 1) := by decide +kernel
theorem dX6_waive_55 : decode cX6_waive 55 = .ok (.iload_n 2, 1) := by decide +kernel
theorem dX6_waive_56 : decode cX6_waive 56 = .ok (.putfield 227, 3) := by decide +kernel
theorem dX6_waive_59 : decode cX6_waive 59 = .ok (.return_, 1) := by decide +kernel
theorem dX6_flaw_0 : decode cX6_flaw 0 = .ok (.aload_n 0, 1) := by decide +kernel
theorem dX6_flaw_1 : decode cX6_flaw 1 = .ok (.iload_n 1, 1) := by decide +kernel
theorem dX6_flaw_2 : decode cX6_flaw 2 = .ok (.invokevirtual 83, 3) := by decide +kernel
theorem dX6_flaw_5 : decode cX6_flaw 5 = .ok (.astore_n 3, 1) := by decide +kernel
theorem dX6_flaw_6 : decode cX6_flaw 6 = .ok (.aload_n 3, 1) := by decide +kernel
theorem dX6_flaw_7 : decode cX6_flaw 7 = .ok (.getfield 87, 3) := by decide +kernel
theorem dX6_flaw_10 : decode cX6_flaw 10 = .ok (.iconst 3, 1) := by decide +kernel
theorem dX6_flaw_11 : decode cX6_flaw 11 = .ok (.if_icmp .eq 21, 3) := by decide +kernel
theorem dX6_flaw_14 : decode cX6_flaw 14 = .ok (.aload_n 3, 1) := by decide +kernel
theorem dX6_flaw_15 : decode cX6_flaw 15 = .ok (.getfield 87, 3) := by decide +kernel
theorem dX6_flaw_18 : decode cX6_flaw 18 = .ok (.iconst 4, 1) := by decide +kernel
theorem dX6_flaw_19 : decode cX6_flaw 19 = .ok (.if_icmp .eq 13, 3) := by decide +kernel
theorem dX6_flaw_22 : decode cX6_flaw 22 = .ok (.new 45, 3) := by decide +kernel
theorem dX6_flaw_25 : decode cX6_flaw 25 = .ok (.dup, 1) := by decide +kernel
theorem dX6_flaw_26 : decode cX6_flaw 26 = .ok (.ldc 238, 2) := by decide +kernel
theorem dX6_flaw_28 : decode cX6_flaw 28 = .ok (.invokespecial 49, 3) := by decide +kernel
theorem dX6_flaw_31 : decode cX6_flaw 31 = .ok (.athrow, 1) := by decide +kernel
theorem dX6_flaw_32 : decode cX6_flaw 32 = .ok (.iload_n 2, 1) := by decide +kernel
theorem dX6_flaw_33 : decode cX6_flaw 33 = .ok (.iconst 1, 1) := by decide +kernel
theorem dX6_flaw_34 : decode cX6_flaw 34 = .ok (.bipush 99, 2) := by decide +kernel
theorem dX6_flaw_36 : decode cX6_flaw 36 = .ok (.invokestatic 41, 3) := by decide +kernel
theorem dX6_flaw_39 : decode cX6_flaw 39 = .ok (.ifCond .eq 13, 3) := by decide +kernel
theorem dX6_flaw_42 : decode cX6_flaw 42 = .ok (.new 45, 3) := by decide +kernel
theorem dX6_flaw_45 : decode cX6_flaw 45 = .ok (.dup, 1) := by decide +kernel
theorem dX6_flaw_46 : decode cX6_flaw 46 = .ok (.ldc 240, 2) := by decide +kernel
theorem dX6_flaw_48 : decode cX6_flaw 48 = .ok (.invokespecial 49, 3) := by decide +kernel
theorem dX6_flaw_51 : decode cX6_flaw 51 = .ok (.athrow, 1) := by decide +kernel
theorem dX6_flaw_52 : decode cX6_flaw 52 = .ok (.aload_n 3, 1) := by decide +kernel
theorem dX6_flaw_53 : decode cX6_flaw 53 = .ok (.getfield 181, 3) := by decide +kernel
theorem dX6_flaw_56 : decode cX6_flaw 56 = .ok (.istore 4, 2) := by decide +kernel
theorem dX6_flaw_58 : decode cX6_flaw 58 = .ok (.aload_n 3, 1) := by decide +kernel
theorem dX6_flaw_59 : decode cX6_flaw 59 = .ok (.iload_n 2, 1) := by decide +kernel
theorem dX6_flaw_60 : decode cX6_flaw 60 = .ok (.putfield 181, 3) := by decide +kernel
theorem dX6_flaw_63 : decode cX6_flaw 63 = .ok (.aload_n 3, 1) := by decide +kernel
theorem dX6_flaw_64 : decode cX6_flaw 64 = .ok (.aload_n 3, 1) := by decide +kernel
theorem dX6_flaw_65 : decode cX6_flaw 65 = .ok (.getfield 242, 3) := by decide +kernel
theorem dX6_flaw_68 : decode cX6_flaw 68 = .ok (.putfield 243, 3) := by decide +kernel
theorem dX6_flaw_71 : decode cX6_flaw 71 = .ok (.iload 4, 2) := by decide +kernel
theorem dX6_flaw_73 : decode cX6_flaw 73 = .ok (.ireturn, 1) := by decide +kernel
theorem dX6_look_0 : decode cX6_look 0 = .ok (.aload_n 0, 1) := by decide +kernel
theorem dX6_look_1 : decode cX6_look 1 = .ok (.iload_n 1, 1) := by decide +kernel
theorem dX6_look_2 : decode cX6_look 2 = .ok (.invokevirtual 83, 3) := by decide +kernel
theorem dX6_look_5 : decode cX6_look 5 = .ok (.astore_n 3, 1) := by decide +kernel
theorem dX6_look_6 : decode cX6_look 6 = .ok (.aload_n 3, 1) := by decide +kernel
theorem dX6_look_7 : decode cX6_look 7 = .ok (.getfield 106, 3) := by decide +kernel
theorem dX6_look_10 : decode cX6_look 10 = .ok (.ifCond .ne 21, 3) := by decide +kernel
theorem dX6_look_13 : decode cX6_look 13 = .ok (.aload_n 3, 1) := by decide +kernel
theorem dX6_look_14 : decode cX6_look 14 = .ok (.invokevirtual 109, 3) := by decide +kernel
theorem dX6_look_17 : decode cX6_look 17 = .ok (.ifCond .ne 14, 3) := by decide +kernel
theorem dX6_look_20 : decode cX6_look 20 = .ok (.iload_n 2, 1) := by decide +kernel
theorem dX6_look_21 : decode cX6_look 21 = .ok (.ifCond .eq 20, 3) := by decide +kernel
theorem dX6_look_24 : decode cX6_look 24 = .ok (.aload_n 3, 1) := by decide +kernel
theorem dX6_look_25 : decode cX6_look 25 = .ok (.invokevirtual 96, 3) := by decide +kernel
theorem dX6_look_28 : decode cX6_look 28 = .ok (.ifCond .ne 13, 3) := by decide +kernel
theorem dX6_look_31 : decode cX6_look 31 = .ok (.new 56, 3) := by decide +kernel
theorem dX6_look_34 : decode cX6_look 34 = .ok (.dup, 1) := by decide +kernel
theorem dX6_look_35 : decode cX6_look 35 = .ok (.ldc 246, 2) := by decide +kernel
theorem dX6_look_37 : decode cX6_look 37 = .ok (.invokespecial 60, 3) := by decide +kernel
theorem dX6_look_40 : decode cX6_look 40 = .ok (.athrow, 1) := by decide +kernel
theorem dX6_look_41 : decode cX6_look 41 = .ok (.aload_n 3, 1) := by decide +kernel
theorem dX6_look_42 : decode cX6_look 42 = .ok (.getfield 181, 3) := by decide +kernel
theorem dX6_look_45 : decode cX6_look 45 = .ok (.iload_n 2, 1) := by decide +kernel
theorem dX6_look_46 : decode cX6_look 46 = .ok (.ifCond .eq 7, 3) := by decide +kernel
theorem dX6_look_49 : decode cX6_look 49 = .ok (.iconst 3, 1) := by decide +kernel
theorem dX6_look_50 : decode cX6_look 50 = .ok (.goto 5, 3) := by decide +kernel
theorem dX6_look_53 : decode cX6_look 53 = .ok (.bipush 10, 2) := by decide +kernel
theorem dX6_look_55 : decode cX6_look 55 = .ok (.if_icmp .lt 21, 3) := by decide +kernel
theorem dX6_look_58 : decode cX6_look 58 = .ok (.aload_n 3, 1) := by decide +kernel
theorem dX6_look_59 : decode cX6_look 59 = .ok (.iconst 1, 1) := by decide +kernel
theorem dX6_look_60 : decode cX6_look 60 = .ok (.putfield 100, 3) := by decide +kernel
theorem dX6_look_63 : decode cX6_look 63 = .ok (.aload_n 3, 1) := by decide +kernel
theorem dX6_look_64 : decode cX6_look 64 = .ok (.invokevirtual 137, 3) := by decide +kernel
theorem dX6_look_67 : decode cX6_look 67 = .ok (.iconst 0, 1) := by decide +kernel
theorem dX6_look_68 : decode cX6_look 68 = .ok (.putfield 141, 3) := by decide +kernel
theorem dX6_look_71 : decode cX6_look 71 = .ok (.aload_n 3, 1) := by decide +kernel
theorem dX6_look_72 : decode cX6_look 72 = .ok (.getfield 181, 3) := by decide +kernel
theorem dX6_look_75 : decode cX6_look 75 = .ok (.ireturn, 1) := by decide +kernel
theorem dX6_look_76 : decode cX6_look 76 = .ok (.iload_n 2, 1) := by decide +kernel
theorem dX6_look_77 : decode cX6_look 77 = .ok (.ifCond .eq 8, 3) := by decide +kernel
theorem dX6_look_80 : decode cX6_look 80 = .ok (.aload_n 3, 1) := by decide +kernel
theorem dX6_look_81 : decode cX6_look 81 = .ok (.iconst 0, 1) := by decide +kernel
theorem dX6_look_82 : decode cX6_look 82 = .ok (.putfield 248, 3) := by decide +kernel
theorem dX6_look_85 : decode cX6_look 85 = .ok (.iconst 0, 1) := by decide +kernel
theorem dX6_look_86 : decode cX6_look 86 = .ok (.ireturn, 1) := by decide +kernel
theorem dX6_clear_0 : decode cX6_clear 0 = .ok (.aload_n 0, 1) := by decide +kernel
theorem dX6_clear_1 : decode cX6_clear 1 = .ok (.iload_n 1, 1) := by decide +kernel
theorem dX6_clear_2 : decode cX6_clear 2 = .ok (.invokevirtual 83, 3) := by decide +kernel
theorem dX6_clear_5 : decode cX6_clear 5 = .ok (.astore_n 2, 1) := by decide +kernel
theorem dX6_clear_6 : decode cX6_clear 6 = .ok (.aload_n 2, 1) := by decide +kernel
theorem dX6_clear_7 : decode cX6_clear 7 = .ok (.getfield 100, 3) := by decide +kernel
theorem dX6_clear_10 : decode cX6_clear 10 = .ok (.ifCond .eq 10, 3) := by decide +kernel
theorem dX6_clear_13 : decode cX6_clear 13 = .ok (.aload_n 2, 1) := by decide +kernel
theorem dX6_clear_14 : decode cX6_clear 14 = .ok (.invokevirtual 109, 3) := by decide +kernel
theorem dX6_clear_17 : decode cX6_clear 17 = .ok (.ifCond .eq 13, 3) := by decide +kernel
theorem dX6_clear_20 : decode cX6_clear 20 = .ok (.new 56, 3) := by decide +kernel
theorem dX6_clear_23 : decode cX6_clear 23 = .ok (.dup, 1) := by decide +kernel
theorem dX6_clear_24 : decode cX6_clear 24 = .ok (.ldc 251, 2) := by decide +kernel
theorem dX6_clear_26 : decode cX6_clear 26 = .ok (.invokespecial 60, 3) := by decide +kernel
theorem dX6_clear_29 : decode cX6_clear 29 = .ok (.athrow, 1) := by decide +kernel
theorem dX6_clear_30 : decode cX6_clear 30 = .ok (.aload_n 2, 1) := by decide +kernel
theorem dX6_clear_31 : decode cX6_clear 31 = .ok (.getfield 181, 3) := by decide +kernel
theorem dX6_clear_34 : decode cX6_clear 34 = .ok (.istore_n 3, 1) := by decide +kernel
theorem dX6_clear_35 : decode cX6_clear 35 = .ok (.aload_n 2, 1) := by decide +kernel
theorem dX6_clear_36 : decode cX6_clear 36 = .ok (.iconst 0, 1) := by decide +kernel
theorem dX6_clear_37 : decode cX6_clear 37 = .ok (.putfield 181, 3) := by decide +kernel
theorem dX6_clear_40 : decode cX6_clear 40 = .ok (.aload_n 2, 1) := by decide +kernel
theorem dX6_clear_41 : decode cX6_clear 41 = .ok (.iconst 0, 1) := by decide +kernel
theorem dX6_clear_42 : decode cX6_clear 42 = .ok (.putfield 100, 3) := by decide +kernel
theorem dX6_clear_45 : decode cX6_clear 45 = .ok (.iload_n 3, 1) := by decide +kernel
theorem dX6_clear_46 : decode cX6_clear 46 = .ok (.ireturn, 1) := by decide +kernel
theorem dX6_recall_0 : decode cX6_recall 0 = .ok (.iload_n 1, 1) := by decide +kernel
theorem dX6_recall_1 : decode cX6_recall 1 = .ok (.iconst 0, 1) := by decide +kernel
theorem dX6_recall_2 : decode cX6_recall 2 = .ok (.bipush 9, 2) := by decide +kernel
theorem dX6_recall_4 : decode cX6_recall 4 = .ok (.invokestatic 41, 3) := by decide +kernel
theorem dX6_recall_7 : decode cX6_recall 7 = .ok (.ifCond .eq 13, 3) := by decide +kernel
theorem dX6_recall_10 : decode cX6_recall 10 = .ok (.new 45, 3) := by decide +kernel
theorem dX6_recall_13 : decode cX6_recall 13 = .ok (.dup, 1) := by decide +kernel
theorem dX6_recall_14 : decode cX6_recall 14 = .ok (.ldc 253, 2) := by decide +kernel
theorem dX6_recall_16 : decode cX6_recall 16 = .ok (.invokespecial 49, 3) := by decide +kernel
theorem dX6_recall_19 : decode cX6_recall 19 = .ok (.athrow, 1) := by decide +kernel
theorem dX6_recall_20 : decode cX6_recall 20 = .ok (.iconst 0, 1) := by decide +kernel
theorem dX6_recall_21 : decode cX6_recall 21 = .ok (.istore_n 2, 1) := by decide +kernel
theorem dX6_recall_22 : decode cX6_recall 22 = .ok (.iconst 0, 1) := by decide +kernel
theorem dX6_recall_23 : decode cX6_recall 23 = .ok (.istore_n 3, 1) := by decide +kernel
theorem dX6_recall_24 : decode cX6_recall 24 = .ok (.iload_n 3, 1) := by decide +kernel
theorem dX6_recall_25 : decode cX6_recall 25 = .ok (.aload_n 0, 1) := by decide +kernel
theorem dX6_recall_26 : decode cX6_recall 26 = .ok (.getfield 10, 3) := by decide +kernel
theorem dX6_recall_29 : decode cX6_recall 29 = .ok (.invokevirtual 52, 3) := by decide +kernel
theorem dX6_recall_32 : decode cX6_recall 32 = .ok (.if_icmp .ge 65, 3) := by decide +kernel
theorem dX6_recall_35 : decode cX6_recall 35 = .ok (.aload_n 0, 1) := by decide +kernel
theorem dX6_recall_36 : decode cX6_recall 36 = .ok (.getfield 10, 3) := by decide +kernel
theorem dX6_recall_39 : decode cX6_recall 39 = .ok (.iload_n 3, 1) := by decide +kernel
theorem dX6_recall_40 : decode cX6_recall 40 = .ok (.invokevirtual 171, 3) := by decide +kernel
theorem dX6_recall_43 : decode cX6_recall 43 = .ok (.checkcast 61, 3) := by decide +kernel
theorem dX6_recall_46 : decode cX6_recall 46 = .ok (.astore 4, 2) := by decide +kernel
theorem dX6_recall_48 : decode cX6_recall 48 = .ok (.aload 4, 2) := by decide +kernel
theorem dX6_recall_50 : decode cX6_recall 50 = .ok (.getfield 255, 3) := by decide +kernel
theorem dX6_recall_53 : decode cX6_recall 53 = .ok (.iload_n 1, 1) := by decide +kernel
theorem dX6_recall_54 : decode cX6_recall 54 = .ok (.if_icmp .ne 37, 3) := by decide +kernel
theorem dX6_recall_57 : decode cX6_recall 57 = .ok (.aload 4, 2) := by decide +kernel
theorem dX6_recall_59 : decode cX6_recall 59 = .ok (.getfield 106, 3) := by decide +kernel
theorem dX6_recall_62 : decode cX6_recall 62 = .ok (.ifCond .ne 29, 3) := by decide +kernel
theorem dX6_recall_65 : decode cX6_recall 65 = .ok (.aload 4, 2) := by decide +kernel
theorem dX6_recall_67 : decode cX6_recall 67 = .ok (.getfield 248, 3) := by decide +kernel
theorem dX6_recall_70 : decode cX6_recall 70 = .ok (.ifCond .ne 21, 3) := by decide +kernel
theorem dX6_recall_73 : decode cX6_recall 73 = .ok (.aload 4, 2) := by decide +kernel
theorem dX6_recall_75 : decode cX6_recall 75 = .ok (.iconst 1, 1) := by decide +kernel
theorem dX6_recall_76 : decode cX6_recall 76 = .ok (.putfield 248, 3) := by decide +kernel
theorem dX6_recall_79 : decode cX6_recall 79 = .ok (.aload 4, 2) := by decide +kernel
theorem dX6_recall_81 : decode cX6_recall 81 = .ok (.invokevirtual 137, 3) := by decide +kernel
theorem dX6_recall_84 : decode cX6_recall 84 = .ok (.iconst 0, 1) := by decide +kernel
theorem dX6_recall_85 : decode cX6_recall 85 = .ok (.putfield 141, 3) := by decide +kernel
theorem dX6_recall_88 : decode cX6_recall 88 = .ok (.iinc 2 1, 3) := by decide +kernel
theorem dX6_recall_91 : decode cX6_recall 91 = .ok (.iinc 3 1, 3) := by decide +kernel
theorem dX6_recall_94 : decode cX6_recall 94 = .ok (.goto (-70), 3) := by decide +kernel
theorem dX6_recall_97 : decode cX6_recall 97 = .ok (.iload_n 2, 1) := by decide +kernel
theorem dX6_recall_98 : decode cX6_recall 98 = .ok (.ireturn, 1) := by decide +kernel
theorem dX6_release_0 : decode cX6_release 0 = .ok (.aload_n 0, 1) := by decide +kernel
theorem dX6_release_1 : decode cX6_release 1 = .ok (.iload_n 1, 1) := by decide +kernel
theorem dX6_release_2 : decode cX6_release 2 = .ok (.invokevirtual 160, 3) := by decide +kernel
theorem dX6_release_5 : decode cX6_release 5 = .ok (.astore_n 2, 1) := by decide +kernel
theorem dX6_release_6 : decode cX6_release 6 = .ok (.aload_n 0, 1) := by decide +kernel
theorem dX6_release_7 : decode cX6_release 7 = .ok (.aload_n 2, 1) := by decide +kernel
theorem dX6_release_8 : decode cX6_release 8 = .ok (.invokevirtual 258, 3) := by decide +kernel
theorem dX6_release_11 : decode cX6_release 11 = .ok (.istore_n 3, 1) := by decide +kernel
theorem dX6_release_12 : decode cX6_release 12 = .ok (.aload_n 2, 1) := by decide +kernel
theorem dX6_release_13 : decode cX6_release 13 = .ok (.iload_n 3, 1) := by decide +kernel
theorem dX6_release_14 : decode cX6_release 14 = .ok (.ifCond .ne 7, 3) := by decide +kernel
theorem dX6_release_17 : decode cX6_release 17 = .ok (.iconst 1, 1) := by decide +kernel
theorem dX6_release_18 : decode cX6_release 18 = .ok (.goto 4, 3) := by decide +kernel
theorem dX6_release_21 : decode cX6_release 21 = .ok (.iconst 0, 1) := by decide +kernel
theorem dX6_release_22 : decode cX6_release 22 = .ok (.putfield 141, 3) := by decide +kernel
theorem dX6_release_25 : decode cX6_release 25 = .ok (.iload_n 3, 1) := by decide +kernel
theorem dX6_release_26 : decode cX6_release 26 = .ok (.ireturn, 1) := by decide +kernel
theorem dX6_comes_0 : decode cX6_comes 0 = .ok (.aload_n 0, 1) := by decide +kernel
theorem dX6_comes_1 : decode cX6_comes 1 = .ok (.iload_n 1, 1) := by decide +kernel
theorem dX6_comes_2 : decode cX6_comes 2 = .ok (.invokevirtual 160, 3) := by decide +kernel
theorem dX6_comes_5 : decode cX6_comes 5 = .ok (.astore_n 3, 1) := by decide +kernel
theorem dX6_comes_6 : decode cX6_comes 6 = .ok (.iload_n 2, 1) := by decide +kernel
theorem dX6_comes_7 : decode cX6_comes 7 = .ok (.iconst 0, 1) := by decide +kernel
theorem dX6_comes_8 : decode cX6_comes 8 = .ok (.bipush 99, 2) := by decide +kernel
theorem dX6_comes_10 : decode cX6_comes 10 = .ok (.invokestatic 41, 3) := by decide +kernel
theorem dX6_comes_13 : decode cX6_comes 13 = .ok (.ifCond .eq 14, 3) := by decide +kernel
theorem dX6_comes_16 : decode cX6_comes 16 = .ok (.new 45, 3) := by decide +kernel
theorem dX6_comes_19 : decode cX6_comes 19 = .ok (.dup, 1) := by decide +kernel
theorem dX6_comes_20 : decode cX6_comes 20 = .ok (.ldc_w 261, 3) := by decide +kernel
theorem dX6_comes_23 : decode cX6_comes 23 = .ok (.invokespecial 49, 3) := by decide +kernel
theorem dX6_comes_26 : decode cX6_comes 26 = .ok (.athrow, 1) := by decide +kernel
theorem dX6_comes_27 : decode cX6_comes 27 = .ok (.aload_n 0, 1) := by decide +kernel
theorem dX6_comes_28 : decode cX6_comes 28 = .ok (.getfield 32, 3) := by decide +kernel
theorem dX6_comes_31 : decode cX6_comes 31 = .ok (.getfield 263, 3) := by decide +kernel
theorem dX6_comes_34 : decode cX6_comes 34 = .ok (.invokevirtual 52, 3) := by decide +kernel
theorem dX6_comes_37 : decode cX6_comes 37 = .ok (.bipush 8, 2) := by decide +kernel
theorem dX6_comes_39 : decode cX6_comes 39 = .ok (.if_icmp .ge 25, 3) := by decide +kernel
theorem dX6_comes_42 : decode cX6_comes 42 = .ok (.aload_n 0, 1) := by decide +kernel
theorem dX6_comes_43 : decode cX6_comes 43 = .ok (.getfield 32, 3) := by decide +kernel
theorem dX6_comes_46 : decode cX6_comes 46 = .ok (.iload_n 2, 1) := by decide +kernel
theorem dX6_comes_47 : decode cX6_comes 47 = .ok (.invokevirtual 266, 3) := by decide +kernel
theorem dX6_comes_50 : decode cX6_comes 50 = .ok (.ifCond .ne 14, 3) := by decide +kernel
theorem dX6_comes_53 : decode cX6_comes 53 = .ok (.aload_n 0, 1) := by decide +kernel
theorem dX6_comes_54 : decode cX6_comes 54 = .ok (.getfield 32, 3) := by decide +kernel
theorem dX6_comes_57 : decode cX6_comes 57 = .ok (.aload_n 3, 1) := by decide +kernel
theorem dX6_comes_58 : decode cX6_comes 58 = .ok (.invokevirtual 154, 3) := by decide +kernel
theorem dX6_comes_61 : decode cX6_comes 61 = .ok (.ifCond .eq 14, 3) := by decide +kernel
theorem dX6_comes_64 : decode cX6_comes 64 = .ok (.new 56, 3) := by decide +kernel
theorem dX6_comes_67 : decode cX6_comes 67 = .ok (.dup, 1) := by decide +kernel
theorem dX6_comes_68 : decode cX6_comes 68 = .ok (.ldc_w 270, 3) := by decide +kernel
theorem dX6_comes_71 : decode cX6_comes 71 = .ok (.invokespecial 60, 3) := by decide +kernel
theorem dX6_comes_74 : decode cX6_comes 74 = .ok (.athrow, 1) := by decide +kernel
theorem dX6_comes_75 : decode cX6_comes 75 = .ok (.aload_n 3, 1) := by decide +kernel
theorem dX6_comes_76 : decode cX6_comes 76 = .ok (.invokevirtual 109, 3) := by decide +kernel
theorem dX6_comes_79 : decode cX6_comes 79 = .ok (.ifCond .ne 10, 3) := by decide +kernel
theorem dX6_comes_82 : decode cX6_comes 82 = .ok (.aload_n 3, 1) := by decide +kernel
theorem dX6_comes_83 : decode cX6_comes 83 = .ok (.getfield 106, 3) := by decide +kernel
theorem dX6_comes_86 : decode cX6_comes 86 = .ok (.ifCond .eq 14, 3) := by decide +kernel
theorem dX6_comes_89 : decode cX6_comes 89 = .ok (.new 56, 3) := by decide +kernel
theorem dX6_comes_92 : decode cX6_comes 92 = .ok (.dup, 1) := by decide +kernel
theorem dX6_comes_93 : decode cX6_comes 93 = .ok (.ldc_w 272, 3) := by decide +kernel
theorem dX6_comes_96 : decode cX6_comes 96 = .ok (.invokespecial 60, 3) := by decide +kernel
theorem dX6_comes_99 : decode cX6_comes 99 = .ok (.athrow, 1) := by decide +kernel
theorem dX6_comes_100 : decode cX6_comes 100 = .ok (.aload_n 3, 1) := by decide +kernel
theorem dX6_comes_101 : decode cX6_comes 101 = .ok (.iload_n 2, 1) := by decide +kernel
theorem dX6_comes_102 : decode cX6_comes 102 = .ok (.putfield 274, 3) := by decide +kernel
theorem dX6_comes_105 : decode cX6_comes 105 = .ok (.aload_n 0, 1) := by decide +kernel
theorem dX6_comes_106 : decode cX6_comes 106 = .ok (.getfield 32, 3) := by decide +kernel
theorem dX6_comes_109 : decode cX6_comes 109 = .ok (.getfield 263, 3) := by decide +kernel
theorem dX6_comes_112 : decode cX6_comes 112 = .ok (.aload_n 3, 1) := by decide +kernel
theorem dX6_comes_113 : decode cX6_comes 113 = .ok (.invokevirtual 66, 3) := by decide +kernel
theorem dX6_comes_116 : decode cX6_comes 116 = .ok (.pop, 1) := by decide +kernel
theorem dX6_comes_117 : decode cX6_comes 117 = .ok (.aload_n 0, 1) := by decide +kernel
theorem dX6_comes_118 : decode cX6_comes 118 = .ok (.getfield 32, 3) := by decide +kernel
theorem dX6_comes_121 : decode cX6_comes 121 = .ok (.getfield 263, 3) := by decide +kernel
theorem dX6_comes_124 : decode cX6_comes 124 = .ok (.invokevirtual 52, 3) := by decide +kernel
theorem dX6_comes_127 : decode cX6_comes 127 = .ok (.ireturn, 1) := by decide +kernel
theorem dX6_night_0 : decode cX6_night 0 = .ok (.aload_n 0, 1) := by decide +kernel
theorem dX6_night_1 : decode cX6_night 1 = .ok (.getfield 32, 3) := by decide +kernel
theorem dX6_night_4 : decode cX6_night 4 = .ok (.getfield 263, 3) := by decide +kernel
theorem dX6_night_7 : decode cX6_night 7 = .ok (.invokevirtual 277, 3) := by decide +kernel
theorem dX6_night_10 : decode cX6_night 10 = .ok (.ifCond .ne 16, 3) := by decide +kernel
theorem dX6_night_13 : decode cX6_night 13 = .ok (.aload_n 0, 1) := by decide +kernel
theorem dX6_night_14 : decode cX6_night 14 = .ok (.getfield 32, 3) := by decide +kernel
theorem dX6_night_17 : decode cX6_night 17 = .ok (.getfield 280, 3) := by decide +kernel
theorem dX6_night_20 : decode cX6_night 20 = .ok (.invokevirtual 277, 3) := by decide +kernel
theorem dX6_night_23 : decode cX6_night 23 = .ok (.ifCond .ne 14, 3) := by decide +kernel
theorem dX6_night_26 : decode cX6_night 26 = .ok (.new 56, 3) := by decide +kernel
theorem dX6_night_29 : decode cX6_night 29 = .ok (.dup, 1) := by decide +kernel
theorem dX6_night_30 : decode cX6_night 30 = .ok (.ldc_w 283, 3) := by decide +kernel
theorem dX6_night_33 : decode cX6_night 33 = .ok (.invokespecial 60, 3) := by decide +kernel
theorem dX6_night_36 : decode cX6_night 36 = .ok (.athrow, 1) := by decide +kernel
theorem dX6_night_37 : decode cX6_night 37 = .ok (.aload_n 0, 1) := by decide +kernel
theorem dX6_night_38 : decode cX6_night 38 = .ok (.getfield 32, 3) := by decide +kernel
theorem dX6_night_41 : decode cX6_night 41 = .ok (.invokevirtual 285, 3) := by decide +kernel
theorem dX6_night_44 : decode cX6_night 44 = .ok (.ireturn, 1) := by decide +kernel
theorem dX6_out_0 : decode cX6_out 0 = .ok (.aload_n 0, 1) := by decide +kernel
theorem dX6_out_1 : decode cX6_out 1 = .ok (.getfield 32, 3) := by decide +kernel
theorem dX6_out_4 : decode cX6_out 4 = .ok (.getfield 280, 3) := by decide +kernel
theorem dX6_out_7 : decode cX6_out 7 = .ok (.invokevirtual 277, 3) := by decide +kernel
theorem dX6_out_10 : decode cX6_out 10 = .ok (.ifCond .eq 14, 3) := by decide +kernel
theorem dX6_out_13 : decode cX6_out 13 = .ok (.new 56, 3) := by decide +kernel
theorem dX6_out_16 : decode cX6_out 16 = .ok (.dup, 1) := by decide +kernel
theorem dX6_out_17 : decode cX6_out 17 = .ok (.ldc_w 288, 3) := by decide +kernel
theorem dX6_out_20 : decode cX6_out 20 = .ok (.invokespecial 60, 3) := by decide +kernel
theorem dX6_out_23 : decode cX6_out 23 = .ok (.athrow, 1) := by decide +kernel
theorem dX6_out_24 : decode cX6_out 24 = .ok (.aload_n 0, 1) := by decide +kernel
theorem dX6_out_25 : decode cX6_out 25 = .ok (.getfield 32, 3) := by decide +kernel
theorem dX6_out_28 : decode cX6_out 28 = .ok (.invokevirtual 290, 3) := by decide +kernel
theorem dX6_out_31 : decode cX6_out 31 = .ok (.ireturn, 1) := by decide +kernel
theorem dX6_host_0 : decode cX6_host 0 = .ok (.aload_n 0, 1) := by decide +kernel
theorem dX6_host_1 : decode cX6_host 1 = .ok (.iload_n 1, 1) := by decide +kernel
theorem dX6_host_2 : decode cX6_host 2 = .ok (.invokevirtual 83, 3) := by decide +kernel
theorem dX6_host_5 : decode cX6_host 5 = .ok (.invokevirtual 293, 3) := by decide +kernel
theorem dX6_host_8 : decode cX6_host 8 = .ok (.ireturn, 1) := by decide +kernel
theorem dX6_head_0 : decode cX6_head 0 = .ok (.aload_n 0, 1) := by decide +kernel
theorem dX6_head_1 : decode cX6_head 1 = .ok (.iload_n 1, 1) := by decide +kernel
theorem dX6_head_2 : decode cX6_head 2 = .ok (.invokevirtual 83, 3) := by decide +kernel
theorem dX6_head_5 : decode cX6_head 5 = .ok (.invokevirtual 137, 3) := by decide +kernel
theorem dX6_head_8 : decode cX6_head 8 = .ok (.getfield 149, 3) := by decide +kernel
theorem dX6_head_11 : decode cX6_head 11 = .ok (.ireturn, 1) := by decide +kernel
theorem dX6_ofPart_0 : decode cX6_ofPart 0 = .ok (.aload_n 0, 1) := by decide +kernel
theorem dX6_ofPart_1 : decode cX6_ofPart 1 = .ok (.iload_n 1, 1) := by decide +kernel
theorem dX6_ofPart_2 : decode cX6_ofPart 2 = .ok (.invokevirtual 83, 3) := by decide +kernel
theorem dX6_ofPart_5 : decode cX6_ofPart 5 = .ok (.astore_n 3, 1) := by decide +kernel
theorem dX6_ofPart_6 : decode cX6_ofPart 6 = .ok (.iload_n 2, 1) := by decide +kernel
theorem dX6_ofPart_7 : decode cX6_ofPart 7 = .ok (.tableswitch 114 0 8 #[49, 54, 59, 64, 69, 74, 79, 92, 105], 49) := by decide +kernel
theorem dX6_ofPart_56 : decode cX6_ofPart 56 = .ok (.aload_n 3, 1) := by decide +kernel
theorem dX6_ofPart_57 : decode cX6_ofPart 57 = .ok (.getfield 87, 3) := by decide +kernel
theorem dX6_ofPart_60 : decode cX6_ofPart 60 = .ok (.ireturn, 1) := by decide +kernel
theorem dX6_ofPart_61 : decode cX6_ofPart 61 = .ok (.aload_n 3, 1) := by decide +kernel
theorem dX6_ofPart_62 : decode cX6_ofPart 62 = .ok (.getfield 255, 3) := by decide +kernel
theorem dX6_ofPart_65 : decode cX6_ofPart 65 = .ok (.ireturn, 1) := by decide +kernel
theorem dX6_ofPart_66 : decode cX6_ofPart 66 = .ok (.aload_n 3, 1) := by decide +kernel
theorem dX6_ofPart_67 : decode cX6_ofPart 67 = .ok (.getfield 118, 3) := by decide +kernel
theorem dX6_ofPart_70 : decode cX6_ofPart 70 = .ok (.ireturn, 1) := by decide +kernel
theorem dX6_ofPart_71 : decode cX6_ofPart 71 = .ok (.aload_n 3, 1) := by decide +kernel
theorem dX6_ofPart_72 : decode cX6_ofPart 72 = .ok (.getfield 242, 3) := by decide +kernel
theorem dX6_ofPart_75 : decode cX6_ofPart 75 = .ok (.ireturn, 1) := by decide +kernel
theorem dX6_ofPart_76 : decode cX6_ofPart 76 = .ok (.aload_n 3, 1) := by decide +kernel
theorem dX6_ofPart_77 : decode cX6_ofPart 77 = .ok (.getfield 224, 3) := by decide +kernel
theorem dX6_ofPart_80 : decode cX6_ofPart 80 = .ok (.ireturn, 1) := by decide +kernel
theorem dX6_ofPart_81 : decode cX6_ofPart 81 = .ok (.aload_n 3, 1) := by decide +kernel
theorem dX6_ofPart_82 : decode cX6_ofPart 82 = .ok (.getfield 227, 3) := by decide +kernel
theorem dX6_ofPart_85 : decode cX6_ofPart 85 = .ok (.ireturn, 1) := by decide +kernel
theorem dX6_ofPart_86 : decode cX6_ofPart 86 = .ok (.aload_n 3, 1) := by decide +kernel
theorem dX6_ofPart_87 : decode cX6_ofPart 87 = .ok (.getfield 100, 3) := by decide +kernel
theorem dX6_ofPart_90 : decode cX6_ofPart 90 = .ok (.ifCond .eq 7, 3) := by decide +kernel
theorem dX6_ofPart_93 : decode cX6_ofPart 93 = .ok (.iconst 1, 1) := by decide +kernel
theorem dX6_ofPart_94 : decode cX6_ofPart 94 = .ok (.goto 4, 3) := by decide +kernel
theorem dX6_ofPart_97 : decode cX6_ofPart 97 = .ok (.iconst 0, 1) := by decide +kernel
theorem dX6_ofPart_98 : decode cX6_ofPart 98 = .ok (.ireturn, 1) := by decide +kernel
theorem dX6_ofPart_99 : decode cX6_ofPart 99 = .ok (.aload_n 3, 1) := by decide +kernel
theorem dX6_ofPart_100 : decode cX6_ofPart 100 = .ok (.getfield 248, 3) := by decide +kernel
theorem dX6_ofPart_103 : decode cX6_ofPart 103 = .ok (.ifCond .eq 7, 3) := by decide +kernel
theorem dX6_ofPart_106 : decode cX6_ofPart 106 = .ok (.iconst 1, 1) := by decide +kernel
theorem dX6_ofPart_107 : decode cX6_ofPart 107 = .ok (.goto 4, 3) := by decide +kernel
theorem dX6_ofPart_110 : decode cX6_ofPart 110 = .ok (.iconst 0, 1) := by decide +kernel
theorem dX6_ofPart_111 : decode cX6_ofPart 111 = .ok (.ireturn, 1) := by decide +kernel
theorem dX6_ofPart_112 : decode cX6_ofPart 112 = .ok (.aload_n 0, 1) := by decide +kernel
theorem dX6_ofPart_113 : decode cX6_ofPart 113 = .ok (.getfield 25, 3) := by decide +kernel
theorem dX6_ofPart_116 : decode cX6_ofPart 116 = .ok (.iload_n 1, 1) := by decide +kernel
theorem dX6_ofPart_117 : decode cX6_ofPart 117 = .ok (.invokevirtual 296, 3) := by decide +kernel
theorem dX6_ofPart_120 : decode cX6_ofPart 120 = .ok (.ireturn, 1) := by decide +kernel
theorem dX6_ofPart_121 : decode cX6_ofPart 121 = .ok (.new 45, 3) := by decide +kernel
theorem dX6_ofPart_124 : decode cX6_ofPart 124 = .ok (.dup, 1) := by decide +kernel
theorem dX6_ofPart_125 : decode cX6_ofPart 125 = .ok (.ldc_w 299, 3) := by decide +kernel
theorem dX6_ofPart_128 : decode cX6_ofPart 128 = .ok (.invokespecial 49, 3) := by decide +kernel
theorem dX6_ofPart_131 : decode cX6_ofPart 131 = .ok (.athrow, 1) := by decide +kernel
theorem dX6_trace_0 : decode cX6_trace 0 = .ok (.aload_n 0, 1) := by decide +kernel
theorem dX6_trace_1 : decode cX6_trace 1 = .ok (.iload_n 1, 1) := by decide +kernel
theorem dX6_trace_2 : decode cX6_trace 2 = .ok (.invokevirtual 83, 3) := by decide +kernel
theorem dX6_trace_5 : decode cX6_trace 5 = .ok (.astore_n 3, 1) := by decide +kernel
theorem dX6_trace_6 : decode cX6_trace 6 = .ok (.aload_n 0, 1) := by decide +kernel
theorem dX6_trace_7 : decode cX6_trace 7 = .ok (.getfield 25, 3) := by decide +kernel
theorem dX6_trace_10 : decode cX6_trace 10 = .ok (.aload_n 3, 1) := by decide +kernel
theorem dX6_trace_11 : decode cX6_trace 11 = .ok (.getfield 149, 3) := by decide +kernel
theorem dX6_trace_14 : decode cX6_trace 14 = .ok (.iload_n 2, 1) := by decide +kernel
theorem dX6_trace_15 : decode cX6_trace 15 = .ok (.invokevirtual 301, 3) := by decide +kernel
theorem dX6_trace_18 : decode cX6_trace 18 = .ok (.astore 4, 2) := by decide +kernel
theorem dX6_trace_20 : decode cX6_trace 20 = .ok (.aload 4, 2) := by decide +kernel
theorem dX6_trace_22 : decode cX6_trace 22 = .ok (.ifnonnull 14, 3) := by decide +kernel
theorem dX6_trace_25 : decode cX6_trace 25 = .ok (.new 305, 3) := by decide +kernel
theorem dX6_trace_28 : decode cX6_trace 28 = .ok (.dup, 1) := by decide +kernel
theorem dX6_trace_29 : decode cX6_trace 29 = .ok (.ldc_w 307, 3) := by decide +kernel
theorem dX6_trace_32 : decode cX6_trace 32 = .ok (.invokespecial 309, 3) := by decide +kernel
theorem dX6_trace_35 : decode cX6_trace 35 = .ok (.athrow, 1) := by decide +kernel
theorem dX6_trace_36 : decode cX6_trace 36 = .ok (.aload 4, 2) := by decide +kernel
theorem dX6_trace_38 : decode cX6_trace 38 = .ok (.getfield 310, 3) := by decide +kernel
theorem dX6_trace_41 : decode cX6_trace 41 = .ok (.ireturn, 1) := by decide +kernel
theorem dX6_lifeAnew_0 : decode cX6_lifeAnew 0 = .ok (.aload_n 0, 1) := by decide +kernel
theorem dX6_lifeAnew_1 : decode cX6_lifeAnew 1 = .ok (.getfield 25, 3) := by decide +kernel
theorem dX6_lifeAnew_4 : decode cX6_lifeAnew 4 = .ok (.aload_n 0, 1) := by decide +kernel
theorem dX6_lifeAnew_5 : decode cX6_lifeAnew 5 = .ok (.iload_n 1, 1) := by decide +kernel
theorem dX6_lifeAnew_6 : decode cX6_lifeAnew 6 = .ok (.invokevirtual 83, 3) := by decide +kernel
theorem dX6_lifeAnew_9 : decode cX6_lifeAnew 9 = .ok (.getfield 149, 3) := by decide +kernel
theorem dX6_lifeAnew_12 : decode cX6_lifeAnew 12 = .ok (.invokevirtual 315, 3) := by decide +kernel
theorem dX6_lifeAnew_15 : decode cX6_lifeAnew 15 = .ok (.ireturn, 1) := by decide +kernel
theorem dX6_wheel_0 : decode cX6_wheel 0 = .ok (.aload_n 0, 1) := by decide +kernel
theorem dX6_wheel_1 : decode cX6_wheel 1 = .ok (.iload_n 1, 1) := by decide +kernel
theorem dX6_wheel_2 : decode cX6_wheel 2 = .ok (.invokevirtual 207, 3) := by decide +kernel
theorem dX6_wheel_5 : decode cX6_wheel 5 = .ok (.astore_n 3, 1) := by decide +kernel
theorem dX6_wheel_6 : decode cX6_wheel 6 = .ok (.iload_n 2, 1) := by decide +kernel
theorem dX6_wheel_7 : decode cX6_wheel 7 = .ok (.tableswitch 40 0 2 #[25, 30, 35], 25) := by decide +kernel
theorem dX6_wheel_32 : decode cX6_wheel 32 = .ok (.aload_n 3, 1) := by decide +kernel
theorem dX6_wheel_33 : decode cX6_wheel 33 = .ok (.getfield 196, 3) := by decide +kernel
theorem dX6_wheel_36 : decode cX6_wheel 36 = .ok (.ireturn, 1) := by decide +kernel
theorem dX6_wheel_37 : decode cX6_wheel 37 = .ok (.aload_n 3, 1) := by decide +kernel
theorem dX6_wheel_38 : decode cX6_wheel 38 = .ok (.getfield 213, 3) := by decide +kernel
theorem dX6_wheel_41 : decode cX6_wheel 41 = .ok (.ireturn, 1) := by decide +kernel
theorem dX6_wheel_42 : decode cX6_wheel 42 = .ok (.aload_n 3, 1) := by decide +kernel
theorem dX6_wheel_43 : decode cX6_wheel 43 = .ok (.getfield 216, 3) := by decide +kernel
theorem dX6_wheel_46 : decode cX6_wheel 46 = .ok (.ireturn, 1) := by decide +kernel
theorem dX6_wheel_47 : decode cX6_wheel 47 = .ok (.new 45, 3) := by decide +kernel
theorem dX6_wheel_50 : decode cX6_wheel 50 = .ok (.dup, 1) := by decide +kernel
theorem dX6_wheel_51 : decode cX6_wheel 51 = .ok (.ldc_w 318, 3) := by decide +kernel
theorem dX6_wheel_54 : decode cX6_wheel 54 = .ok (.invokespecial 49, 3) := by decide +kernel
theorem dX6_wheel_57 : decode cX6_wheel 57 = .ok (.athrow, 1) := by decide +kernel
theorem dX6_foretell_0 : decode cX6_foretell 0 = .ok (.aload_n 0, 1) := by decide +kernel
theorem dX6_foretell_1 : decode cX6_foretell 1 = .ok (.iload_n 1, 1) := by decide +kernel
theorem dX6_foretell_2 : decode cX6_foretell 2 = .ok (.invokevirtual 207, 3) := by decide +kernel
theorem dX6_foretell_5 : decode cX6_foretell 5 = .ok (.astore 4, 2) := by decide +kernel
theorem dX6_foretell_7 : decode cX6_foretell 7 = .ok (.iload_n 2, 1) := by decide +kernel
theorem dX6_foretell_8 : decode cX6_foretell 8 = .ok (.iload_n 3, 1) := by decide +kernel
theorem dX6_foretell_9 : decode cX6_foretell 9 = .ok (.invokestatic 163, 3) := by decide +kernel
theorem dX6_foretell_12 : decode cX6_foretell 12 = .ok (.aload 4, 2) := by decide +kernel
theorem dX6_foretell_14 : decode cX6_foretell 14 = .ok (.getfield 216, 3) := by decide +kernel
theorem dX6_foretell_17 : decode cX6_foretell 17 = .ok (.iconst (-1), 1) := by decide +kernel
theorem dX6_foretell_18 : decode cX6_foretell 18 = .ok (.if_icmp .ne 5, 3) := by decide +kernel
theorem dX6_foretell_21 : decode cX6_foretell 21 = .ok (.iconst (-1), 1) := by decide +kernel
theorem dX6_foretell_22 : decode cX6_foretell 22 = .ok (.ireturn, 1) := by decide +kernel
theorem dX6_foretell_23 : decode cX6_foretell 23 = .ok (.iconst 0, 1) := by decide +kernel
theorem dX6_foretell_24 : decode cX6_foretell 24 = .ok (.aload 4, 2) := by decide +kernel
theorem dX6_foretell_26 : decode cX6_foretell 26 = .ok (.getfield 216, 3) := by decide +kernel
theorem dX6_foretell_29 : decode cX6_foretell 29 = .ok (.sipush 250, 3) := by decide +kernel
theorem dX6_foretell_32 : decode cX6_foretell 32 = .ok (.isub, 1) := by decide +kernel
theorem dX6_foretell_33 : decode cX6_foretell 33 = .ok (.invokestatic 320, 3) := by decide +kernel
theorem dX6_foretell_36 : decode cX6_foretell 36 = .ok (.istore 5, 2) := by decide +kernel
theorem dX6_foretell_38 : decode cX6_foretell 38 = .ok (.iload 5, 2) := by decide +kernel
theorem dX6_foretell_40 : decode cX6_foretell 40 = .ok (.sipush 200, 3) := by decide +kernel
theorem dX6_foretell_43 : decode cX6_foretell 43 = .ok (.imul, 1) := by decide +kernel
theorem dX6_foretell_44 : decode cX6_foretell 44 = .ok (.iload_n 2, 1) := by decide +kernel
theorem dX6_foretell_45 : decode cX6_foretell 45 = .ok (.iload_n 3, 1) := by decide +kernel
theorem dX6_foretell_46 : decode cX6_foretell 46 = .ok (.invokestatic 175, 3) := by decide +kernel
theorem dX6_foretell_49 : decode cX6_foretell 49 = .ok (.imul, 1) := by decide +kernel
theorem dX6_foretell_50 : decode cX6_foretell 50 = .ok (.idiv, 1) := by decide +kernel
theorem dX6_foretell_51 : decode cX6_foretell 51 = .ok (.ireturn, 1) := by decide +kernel
theorem dX6_bars_0 : decode cX6_bars 0 = .ok (.aload_n 0, 1) := by decide +kernel
theorem dX6_bars_1 : decode cX6_bars 1 = .ok (.aload_n 0, 1) := by decide +kernel
theorem dX6_bars_2 : decode cX6_bars 2 = .ok (.iload_n 1, 1) := by decide +kernel
theorem dX6_bars_3 : decode cX6_bars 3 = .ok (.invokevirtual 160, 3) := by decide +kernel
theorem dX6_bars_6 : decode cX6_bars 6 = .ok (.invokevirtual 258, 3) := by decide +kernel
theorem dX6_bars_9 : decode cX6_bars 9 = .ok (.ireturn, 1) := by decide +kernel
theorem dX6_barredBy_0 : decode cX6_barredBy 0 = .ok (.aload_n 0, 1) := by decide +kernel
theorem dX6_barredBy_1 : decode cX6_barredBy 1 = .ok (.iload_n 1, 1) := by decide +kernel
theorem dX6_barredBy_2 : decode cX6_barredBy 2 = .ok (.invokevirtual 160, 3) := by decide +kernel
theorem dX6_barredBy_5 : decode cX6_barredBy 5 = .ok (.astore_n 2, 1) := by decide +kernel
theorem dX6_barredBy_6 : decode cX6_barredBy 6 = .ok (.aload_n 0, 1) := by decide +kernel
theorem dX6_barredBy_7 : decode cX6_barredBy 7 = .ok (.aload_n 2, 1) := by decide +kernel
theorem dX6_barredBy_8 : decode cX6_barredBy 8 = .ok (.aload_n 0, 1) := by decide +kernel
theorem dX6_barredBy_9 : decode cX6_barredBy 9 = .ok (.aload_n 2, 1) := by decide +kernel
theorem dX6_barredBy_10 : decode cX6_barredBy 10 = .ok (.invokevirtual 258, 3) := by decide +kernel
theorem dX6_barredBy_13 : decode cX6_barredBy 13 = .ok (.invokevirtual 323, 3) := by decide +kernel
theorem dX6_barredBy_16 : decode cX6_barredBy 16 = .ok (.ireturn, 1) := by decide +kernel
theorem dX6_isReleased_0 : decode cX6_isReleased 0 = .ok (.aload_n 0, 1) := by decide +kernel
theorem dX6_isReleased_1 : decode cX6_isReleased 1 = .ok (.iload_n 1, 1) := by decide +kernel
theorem dX6_isReleased_2 : decode cX6_isReleased 2 = .ok (.invokevirtual 160, 3) := by decide +kernel
theorem dX6_isReleased_5 : decode cX6_isReleased 5 = .ok (.getfield 141, 3) := by decide +kernel
theorem dX6_isReleased_8 : decode cX6_isReleased 8 = .ok (.ireturn, 1) := by decide +kernel
theorem dX6_plan_0 : decode cX6_plan 0 = .ok (.aload_n 0, 1) := by decide +kernel
theorem dX6_plan_1 : decode cX6_plan 1 = .ok (.getfield 32, 3) := by decide +kernel
theorem dX6_plan_4 : decode cX6_plan 4 = .ok (.invokevirtual 326, 3) := by decide +kernel
theorem dX6_plan_7 : decode cX6_plan 7 = .ok (.ireturn, 1) := by decide +kernel
theorem dX6_planAnew_0 : decode cX6_planAnew 0 = .ok (.aload_n 0, 1) := by decide +kernel
theorem dX6_planAnew_1 : decode cX6_planAnew 1 = .ok (.getfield 32, 3) := by decide +kernel
theorem dX6_planAnew_4 : decode cX6_planAnew 4 = .ok (.invokevirtual 329, 3) := by decide +kernel
theorem dX6_planAnew_7 : decode cX6_planAnew 7 = .ok (.ireturn, 1) := by decide +kernel
theorem dX6_road_0 : decode cX6_road 0 = .ok (.iload_n 1, 1) := by decide +kernel
theorem dX6_road_1 : decode cX6_road 1 = .ok (.iconst 0, 1) := by decide +kernel
theorem dX6_road_2 : decode cX6_road 2 = .ok (.iconst 2, 1) := by decide +kernel
theorem dX6_road_3 : decode cX6_road 3 = .ok (.invokestatic 41, 3) := by decide +kernel
theorem dX6_road_6 : decode cX6_road 6 = .ok (.ifCond .ne 7, 3) := by decide +kernel
theorem dX6_road_9 : decode cX6_road 9 = .ok (.iload_n 2, 1) := by decide +kernel
theorem dX6_road_10 : decode cX6_road 10 = .ok (.ifCond .ge 14, 3) := by decide +kernel
theorem dX6_road_13 : decode cX6_road 13 = .ok (.new 305, 3) := by decide +kernel
theorem dX6_road_16 : decode cX6_road 16 = .ok (.dup, 1) := by decide +kernel
theorem dX6_road_17 : decode cX6_road 17 = .ok (.ldc_w 332, 3) := by decide +kernel
theorem dX6_road_20 : decode cX6_road 20 = .ok (.invokespecial 309, 3) := by decide +kernel
theorem dX6_road_23 : decode cX6_road 23 = .ok (.athrow, 1) := by decide +kernel
theorem dX6_road_24 : decode cX6_road 24 = .ok (.aload_n 0, 1) := by decide +kernel
theorem dX6_road_25 : decode cX6_road 25 = .ok (.getfield 32, 3) := by decide +kernel
theorem dX6_road_28 : decode cX6_road 28 = .ok (.iload_n 1, 1) := by decide +kernel
theorem dX6_road_29 : decode cX6_road 29 = .ok (.iload_n 2, 1) := by decide +kernel
theorem dX6_road_30 : decode cX6_road 30 = .ok (.invokevirtual 334, 3) := by decide +kernel
theorem dX6_road_33 : decode cX6_road 33 = .ok (.ireturn, 1) := by decide +kernel
theorem dX6_isOutside_0 : decode cX6_isOutside 0 = .ok (.iload_n 0, 1) := by decide +kernel
theorem dX6_isOutside_1 : decode cX6_isOutside 1 = .ok (.iload_n 1, 1) := by decide +kernel
theorem dX6_isOutside_2 : decode cX6_isOutside 2 = .ok (.if_icmp .lt 8, 3) := by decide +kernel
theorem dX6_isOutside_5 : decode cX6_isOutside 5 = .ok (.iload_n 0, 1) := by decide +kernel
theorem dX6_isOutside_6 : decode cX6_isOutside 6 = .ok (.iload_n 2, 1) := by decide +kernel
theorem dX6_isOutside_7 : decode cX6_isOutside 7 = .ok (.if_icmp .le 7, 3) := by decide +kernel
theorem dX6_isOutside_10 : decode cX6_isOutside 10 = .ok (.iconst 1, 1) := by decide +kernel
theorem dX6_isOutside_11 : decode cX6_isOutside 11 = .ok (.goto 4, 3) := by decide +kernel
theorem dX6_isOutside_14 : decode cX6_isOutside 14 = .ok (.iconst 0, 1) := by decide +kernel
theorem dX6_isOutside_15 : decode cX6_isOutside 15 = .ok (.ireturn, 1) := by decide +kernel
theorem dX6_checkRun_0 : decode cX6_checkRun 0 = .ok (.iload_n 0, 1) := by decide +kernel
theorem dX6_checkRun_1 : decode cX6_checkRun 1 = .ok (.iconst 1, 1) := by decide +kernel
theorem dX6_checkRun_2 : decode cX6_checkRun 2 = .ok (.sipush 2000, 3) := by decide +kernel
theorem dX6_checkRun_5 : decode cX6_checkRun 5 = .ok (.invokestatic 41, 3) := by decide +kernel
theorem dX6_checkRun_8 : decode cX6_checkRun 8 = .ok (.ifCond .ne 12, 3) := by decide +kernel
theorem dX6_checkRun_11 : decode cX6_checkRun 11 = .ok (.iload_n 1, 1) := by decide +kernel
theorem dX6_checkRun_12 : decode cX6_checkRun 12 = .ok (.iconst 0, 1) := by decide +kernel
theorem dX6_checkRun_13 : decode cX6_checkRun 13 = .ok (.iconst 3, 1) := by decide +kernel
theorem dX6_checkRun_14 : decode cX6_checkRun 14 = .ok (.invokestatic 41, 3) := by decide +kernel
theorem dX6_checkRun_17 : decode cX6_checkRun 17 = .ok (.ifCond .eq 14, 3) := by decide +kernel
theorem dX6_checkRun_20 : decode cX6_checkRun 20 = .ok (.new 45, 3) := by decide +kernel
theorem dX6_checkRun_23 : decode cX6_checkRun 23 = .ok (.dup, 1) := by decide +kernel
theorem dX6_checkRun_24 : decode cX6_checkRun 24 = .ok (.ldc_w 337, 3) := by decide +kernel
theorem dX6_checkRun_27 : decode cX6_checkRun 27 = .ok (.invokespecial 49, 3) := by decide +kernel
theorem dX6_checkRun_30 : decode cX6_checkRun 30 = .ok (.athrow, 1) := by decide +kernel
theorem dX6_checkRun_31 : decode cX6_checkRun 31 = .ok (.return_, 1) := by decide +kernel
theorem dX6_limitsOf_0 : decode cX6_limitsOf 0 = .ok (.iload_n 1, 1) := by decide +kernel
theorem dX6_limitsOf_1 : decode cX6_limitsOf 1 = .ok (.ifCond .lt 12, 3) := by decide +kernel
theorem dX6_limitsOf_4 : decode cX6_limitsOf 4 = .ok (.iload_n 1, 1) := by decide +kernel
theorem dX6_limitsOf_5 : decode cX6_limitsOf 5 = .ok (.aload_n 0, 1) := by decide +kernel
theorem dX6_limitsOf_6 : decode cX6_limitsOf 6 = .ok (.getfield 18, 3) := by decide +kernel
theorem dX6_limitsOf_9 : decode cX6_limitsOf 9 = .ok (.arraylength, 1) := by decide +kernel
theorem dX6_limitsOf_10 : decode cX6_limitsOf 10 = .ok (.if_icmp .lt 14, 3) := by decide +kernel
theorem dX6_limitsOf_13 : decode cX6_limitsOf 13 = .ok (.new 45, 3) := by decide +kernel
theorem dX6_limitsOf_16 : decode cX6_limitsOf 16 = .ok (.dup, 1) := by decide +kernel
theorem dX6_limitsOf_17 : decode cX6_limitsOf 17 = .ok (.ldc_w 339, 3) := by decide +kernel
theorem dX6_limitsOf_20 : decode cX6_limitsOf 20 = .ok (.invokespecial 49, 3) := by decide +kernel
theorem dX6_limitsOf_23 : decode cX6_limitsOf 23 = .ok (.athrow, 1) := by decide +kernel
theorem dX6_limitsOf_24 : decode cX6_limitsOf 24 = .ok (.aload_n 0, 1) := by decide +kernel
theorem dX6_limitsOf_25 : decode cX6_limitsOf 25 = .ok (.getfield 18, 3) := by decide +kernel
theorem dX6_limitsOf_28 : decode cX6_limitsOf 28 = .ok (.iload_n 1, 1) := by decide +kernel
theorem dX6_limitsOf_29 : decode cX6_limitsOf 29 = .ok (.aaload, 1) := by decide +kernel
theorem dX6_limitsOf_30 : decode cX6_limitsOf 30 = .ok (.areturn, 1) := by decide +kernel
theorem dX6_existing_0 : decode cX6_existing 0 = .ok (.iload_n 1, 1) := by decide +kernel
theorem dX6_existing_1 : decode cX6_existing 1 = .ok (.ifCond .lt 14, 3) := by decide +kernel
theorem dX6_existing_4 : decode cX6_existing 4 = .ok (.iload_n 1, 1) := by decide +kernel
theorem dX6_existing_5 : decode cX6_existing 5 = .ok (.aload_n 0, 1) := by decide +kernel
theorem dX6_existing_6 : decode cX6_existing 6 = .ok (.getfield 10, 3) := by decide +kernel
theorem dX6_existing_9 : decode cX6_existing 9 = .ok (.invokevirtual 52, 3) := by decide +kernel
theorem dX6_existing_12 : decode cX6_existing 12 = .ok (.if_icmp .lt 14, 3) := by decide +kernel
theorem dX6_existing_15 : decode cX6_existing 15 = .ok (.new 305, 3) := by decide +kernel
theorem dX6_existing_18 : decode cX6_existing 18 = .ok (.dup, 1) := by decide +kernel
theorem dX6_existing_19 : decode cX6_existing 19 = .ok (.ldc_w 341, 3) := by decide +kernel
theorem dX6_existing_22 : decode cX6_existing 22 = .ok (.invokespecial 309, 3) := by decide +kernel
theorem dX6_existing_25 : decode cX6_existing 25 = .ok (.athrow, 1) := by decide +kernel
theorem dX6_existing_26 : decode cX6_existing 26 = .ok (.aload_n 0, 1) := by decide +kernel
theorem dX6_existing_27 : decode cX6_existing 27 = .ok (.getfield 10, 3) := by decide +kernel
theorem dX6_existing_30 : decode cX6_existing 30 = .ok (.iload_n 1, 1) := by decide +kernel
theorem dX6_existing_31 : decode cX6_existing 31 = .ok (.invokevirtual 171, 3) := by decide +kernel
theorem dX6_existing_34 : decode cX6_existing 34 = .ok (.checkcast 61, 3) := by decide +kernel
theorem dX6_existing_37 : decode cX6_existing 37 = .ok (.areturn, 1) := by decide +kernel
theorem dX6_existingTrain_0 : decode cX6_existingTrain 0 = .ok (.aload_n 0, 1) := by decide +kernel
theorem dX6_existingTrain_1 : decode cX6_existingTrain 1 = .ok (.iload_n 1, 1) := by decide +kernel
theorem dX6_existingTrain_2 : decode cX6_existingTrain 2 = .ok (.invokevirtual 83, 3) := by decide +kernel
theorem dX6_existingTrain_5 : decode cX6_existingTrain 5 = .ok (.astore_n 2, 1) := by decide +kernel
theorem dX6_existingTrain_6 : decode cX6_existingTrain 6 = .ok (.aload_n 2, 1) := by decide +kernel
theorem dX6_existingTrain_7 : decode cX6_existingTrain 7 = .ok (.getfield 87, 3) := by decide +kernel
theorem dX6_existingTrain_10 : decode cX6_existingTrain 10 = .ok (.ifCond .eq 14, 3) := by decide +kernel
theorem dX6_existingTrain_13 : decode cX6_existingTrain 13 = .ok (.new 45, 3) := by decide +kernel
theorem dX6_existingTrain_16 : decode cX6_existingTrain 16 = .ok (.dup, 1) := by decide +kernel
theorem dX6_existingTrain_17 : decode cX6_existingTrain 17 = .ok (.ldc_w 343, 3) := by decide +kernel
theorem dX6_existingTrain_20 : decode cX6_existingTrain 20 = .ok (.invokespecial 49, 3) := by decide +kernel
theorem dX6_existingTrain_23 : decode cX6_existingTrain 23 = .ok (.athrow, 1) := by decide +kernel
theorem dX6_existingTrain_24 : decode cX6_existingTrain 24 = .ok (.aload_n 2, 1) := by decide +kernel
theorem dX6_existingTrain_25 : decode cX6_existingTrain 25 = .ok (.areturn, 1) := by decide +kernel
theorem dX6_existingWheel_0 : decode cX6_existingWheel 0 = .ok (.aload_n 0, 1) := by decide +kernel
theorem dX6_existingWheel_1 : decode cX6_existingWheel 1 = .ok (.iload_n 1, 1) := by decide +kernel
theorem dX6_existingWheel_2 : decode cX6_existingWheel 2 = .ok (.invokevirtual 83, 3) := by decide +kernel
theorem dX6_existingWheel_5 : decode cX6_existingWheel 5 = .ok (.getfield 345, 3) := by decide +kernel
theorem dX6_existingWheel_8 : decode cX6_existingWheel 8 = .ok (.astore_n 2, 1) := by decide +kernel
theorem dX6_existingWheel_9 : decode cX6_existingWheel 9 = .ok (.aload_n 2, 1) := by decide +kernel
theorem dX6_existingWheel_10 : decode cX6_existingWheel 10 = .ok (.ifnonnull 14, 3) := by decide +kernel
theorem dX6_existingWheel_13 : decode cX6_existingWheel 13 = .ok (.new 45, 3) := by decide +kernel
theorem dX6_existingWheel_16 : decode cX6_existingWheel 16 = .ok (.dup, 1) := by decide +kernel
theorem dX6_existingWheel_17 : decode cX6_existingWheel 17 = .ok (.ldc_w 349, 3) := by decide +kernel
theorem dX6_existingWheel_20 : decode cX6_existingWheel 20 = .ok (.invokespecial 49, 3) := by decide +kernel
theorem dX6_existingWheel_23 : decode cX6_existingWheel 23 = .ok (.athrow, 1) := by decide +kernel
theorem dX6_existingWheel_24 : decode cX6_existingWheel 24 = .ok (.aload_n 2, 1) := by decide +kernel
theorem dX6_existingWheel_25 : decode cX6_existingWheel 25 = .ok (.areturn, 1) := by decide +kernel
theorem dX6_placesFor_0 : decode cX6_placesFor 0 = .ok (.iload_n 0, 1) := by decide +kernel
theorem dX6_placesFor_1 : decode cX6_placesFor 1 = .ok (.tableswitch 69 0 2 #[27, 38, 49], 27) := by decide +kernel
theorem dX6_placesFor_28 : decode cX6_placesFor 28 = .ok (.iload_n 1, 1) := by decide +kernel
theorem dX6_placesFor_29 : decode cX6_placesFor 29 = .ok (.iconst 1, 1) := by decide +kernel
theorem dX6_placesFor_30 : decode cX6_placesFor 30 = .ok (.if_icmp .ne 7, 3) := by decide +kernel
theorem dX6_placesFor_33 : decode cX6_placesFor 33 = .ok (.iconst 2, 1) := by decide +kernel
theorem dX6_placesFor_34 : decode cX6_placesFor 34 = .ok (.goto 4, 3) := by decide +kernel
theorem dX6_placesFor_37 : decode cX6_placesFor 37 = .ok (.iconst 0, 1) := by decide +kernel
theorem dX6_placesFor_38 : decode cX6_placesFor 38 = .ok (.ireturn, 1) := by decide +kernel
theorem dX6_placesFor_39 : decode cX6_placesFor 39 = .ok (.iload_n 1, 1) := by decide +kernel
theorem dX6_placesFor_40 : decode cX6_placesFor 40 = .ok (.iconst 2, 1) := by decide +kernel
theorem dX6_placesFor_41 : decode cX6_placesFor 41 = .ok (.if_icmp .ne 7, 3) := by decide +kernel
theorem dX6_placesFor_44 : decode cX6_placesFor 44 = .ok (.iconst 2, 1) := by decide +kernel
theorem dX6_placesFor_45 : decode cX6_placesFor 45 = .ok (.goto 4, 3) := by decide +kernel
theorem dX6_placesFor_48 : decode cX6_placesFor 48 = .ok (.iconst 0, 1) := by decide +kernel
theorem dX6_placesFor_49 : decode cX6_placesFor 49 = .ok (.ireturn, 1) := by decide +kernel
theorem dX6_placesFor_50 : decode cX6_placesFor 50 = .ok (.iload_n 1, 1) := by decide +kernel
theorem dX6_placesFor_51 : decode cX6_placesFor 51 = .ok (.iconst 3, 1) := by decide +kernel
theorem dX6_placesFor_52 : decode cX6_placesFor 52 = .ok (.if_icmp .ne 7, 3) := by decide +kernel
theorem dX6_placesFor_55 : decode cX6_placesFor 55 = .ok (.iconst 2, 1) := by decide +kernel
theorem dX6_placesFor_56 : decode cX6_placesFor 56 = .ok (.goto 13, 3) := by decide +kernel
theorem dX6_placesFor_59 : decode cX6_placesFor 59 = .ok (.iload_n 1, 1) := by decide +kernel
theorem dX6_placesFor_60 : decode cX6_placesFor 60 = .ok (.iconst 4, 1) := by decide +kernel
theorem dX6_placesFor_61 : decode cX6_placesFor 61 = .ok (.if_icmp .ne 7, 3) := by decide +kernel
theorem dX6_placesFor_64 : decode cX6_placesFor 64 = .ok (.iconst 1, 1) := by decide +kernel
theorem dX6_placesFor_65 : decode cX6_placesFor 65 = .ok (.goto 4, 3) := by decide +kernel
theorem dX6_placesFor_68 : decode cX6_placesFor 68 = .ok (.iconst 0, 1) := by decide +kernel
theorem dX6_placesFor_69 : decode cX6_placesFor 69 = .ok (.ireturn, 1) := by decide +kernel
theorem dX6_placesFor_70 : decode cX6_placesFor 70 = .ok (.iconst 0, 1) := by decide +kernel
theorem dX6_placesFor_71 : decode cX6_placesFor 71 = .ok (.ireturn, 1) := by decide +kernel
theorem dX6_inside_0 : decode cX6_inside 0 = .ok (.iconst 0, 1) := by decide +kernel
theorem dX6_inside_1 : decode cX6_inside 1 = .ok (.istore_n 3, 1) := by decide +kernel
theorem dX6_inside_2 : decode cX6_inside 2 = .ok (.iconst 0, 1) := by decide +kernel
theorem dX6_inside_3 : decode cX6_inside 3 = .ok (.istore 4, 2) := by decide +kernel
theorem dX6_inside_5 : decode cX6_inside 5 = .ok (.iload 4, 2) := by decide +kernel
theorem dX6_inside_7 : decode cX6_inside 7 = .ok (.aload_n 0, 1) := by decide +kernel
theorem dX6_inside_8 : decode cX6_inside 8 = .ok (.getfield 10, 3) := by decide +kernel
theorem dX6_inside_11 : decode cX6_inside 11 = .ok (.invokevirtual 52, 3) := by decide +kernel
theorem dX6_inside_14 : decode cX6_inside 14 = .ok (.if_icmp .ge 44, 3) := by decide +kernel
theorem dX6_inside_17 : decode cX6_inside 17 = .ok (.aload_n 0, 1) := by decide +kernel
theorem dX6_inside_18 : decode cX6_inside 18 = .ok (.getfield 10, 3) := by decide +kernel
theorem dX6_inside_21 : decode cX6_inside 21 = .ok (.iload 4, 2) := by decide +kernel
theorem dX6_inside_23 : decode cX6_inside 23 = .ok (.invokevirtual 171, 3) := by decide +kernel
theorem dX6_inside_26 : decode cX6_inside 26 = .ok (.checkcast 61, 3) := by decide +kernel
theorem dX6_inside_29 : decode cX6_inside 29 = .ok (.astore 5, 2) := by decide +kernel
theorem dX6_inside_31 : decode cX6_inside 31 = .ok (.aload 5, 2) := by decide +kernel
theorem dX6_inside_33 : decode cX6_inside 33 = .ok (.getfield 129, 3) := by decide +kernel
theorem dX6_inside_36 : decode cX6_inside 36 = .ok (.aload_n 1, 1) := by decide +kernel
theorem dX6_inside_37 : decode cX6_inside 37 = .ok (.if_acmp .ne 15, 3) := by decide +kernel
theorem dX6_inside_40 : decode cX6_inside 40 = .ok (.aload 5, 2) := by decide +kernel
theorem dX6_inside_42 : decode cX6_inside 42 = .ok (.getfield 87, 3) := by decide +kernel
theorem dX6_inside_45 : decode cX6_inside 45 = .ok (.iload_n 2, 1) := by decide +kernel
theorem dX6_inside_46 : decode cX6_inside 46 = .ok (.if_icmp .ne 6, 3) := by decide +kernel
theorem dX6_inside_49 : decode cX6_inside 49 = .ok (.iinc 3 1, 3) := by decide +kernel
theorem dX6_inside_52 : decode cX6_inside 52 = .ok (.iinc 4 1, 3) := by decide +kernel
theorem dX6_inside_55 : decode cX6_inside 55 = .ok (.goto (-50), 3) := by decide +kernel
theorem dX6_inside_58 : decode cX6_inside 58 = .ok (.iload_n 3, 1) := by decide +kernel
theorem dX6_inside_59 : decode cX6_inside 59 = .ok (.ireturn, 1) := by decide +kernel
theorem dX6_inside__0 : decode cX6_inside_ 0 = .ok (.iconst 0, 1) := by decide +kernel
theorem dX6_inside__1 : decode cX6_inside_ 1 = .ok (.istore_n 2, 1) := by decide +kernel
theorem dX6_inside__2 : decode cX6_inside_ 2 = .ok (.iconst 0, 1) := by decide +kernel
theorem dX6_inside__3 : decode cX6_inside_ 3 = .ok (.istore_n 3, 1) := by decide +kernel
theorem dX6_inside__4 : decode cX6_inside_ 4 = .ok (.iload_n 3, 1) := by decide +kernel
theorem dX6_inside__5 : decode cX6_inside_ 5 = .ok (.iconst 4, 1) := by decide +kernel
theorem dX6_inside__6 : decode cX6_inside_ 6 = .ok (.if_icmp .gt 18, 3) := by decide +kernel
theorem dX6_inside__9 : decode cX6_inside_ 9 = .ok (.iload_n 2, 1) := by decide +kernel
theorem dX6_inside__10 : decode cX6_inside_ 10 = .ok (.aload_n 0, 1) := by decide +kernel
theorem dX6_inside__11 : decode cX6_inside_ 11 = .ok (.aload_n 1, 1) := by decide +kernel
theorem dX6_inside__12 : decode cX6_inside_ 12 = .ok (.iload_n 3, 1) := by decide +kernel
theorem dX6_inside__13 : decode cX6_inside_ 13 = .ok (.invokevirtual 112, 3) := by decide +kernel
theorem dX6_inside__16 : decode cX6_inside_ 16 = .ok (.iadd, 1) := by decide +kernel
theorem dX6_inside__17 : decode cX6_inside_ 17 = .ok (.istore_n 2, 1) := by decide +kernel
theorem dX6_inside__18 : decode cX6_inside_ 18 = .ok (.iinc 3 1, 3) := by decide +kernel
theorem dX6_inside__21 : decode cX6_inside_ 21 = .ok (.goto (-17), 3) := by decide +kernel
theorem dX6_inside__24 : decode cX6_inside_ 24 = .ok (.iload_n 2, 1) := by decide +kernel
theorem dX6_inside__25 : decode cX6_inside_ 25 = .ok (.ireturn, 1) := by decide +kernel
theorem dX6_wheelIn_0 : decode cX6_wheelIn 0 = .ok (.iconst 0, 1) := by decide +kernel
theorem dX6_wheelIn_1 : decode cX6_wheelIn 1 = .ok (.istore_n 3, 1) := by decide +kernel
theorem dX6_wheelIn_2 : decode cX6_wheelIn 2 = .ok (.iconst 0, 1) := by decide +kernel
theorem dX6_wheelIn_3 : decode cX6_wheelIn 3 = .ok (.istore 4, 2) := by decide +kernel
theorem dX6_wheelIn_5 : decode cX6_wheelIn 5 = .ok (.iload 4, 2) := by decide +kernel
theorem dX6_wheelIn_7 : decode cX6_wheelIn 7 = .ok (.aload_n 0, 1) := by decide +kernel
theorem dX6_wheelIn_8 : decode cX6_wheelIn 8 = .ok (.getfield 10, 3) := by decide +kernel
theorem dX6_wheelIn_11 : decode cX6_wheelIn 11 = .ok (.invokevirtual 52, 3) := by decide +kernel
theorem dX6_wheelIn_14 : decode cX6_wheelIn 14 = .ok (.if_icmp .ge 54, 3) := by decide +kernel
theorem dX6_wheelIn_17 : decode cX6_wheelIn 17 = .ok (.aload_n 0, 1) := by decide +kernel
theorem dX6_wheelIn_18 : decode cX6_wheelIn 18 = .ok (.getfield 10, 3) := by decide +kernel
theorem dX6_wheelIn_21 : decode cX6_wheelIn 21 = .ok (.iload 4, 2) := by decide +kernel
theorem dX6_wheelIn_23 : decode cX6_wheelIn 23 = .ok (.invokevirtual 171, 3) := by decide +kernel
theorem dX6_wheelIn_26 : decode cX6_wheelIn 26 = .ok (.checkcast 61, 3) := by decide +kernel
theorem dX6_wheelIn_29 : decode cX6_wheelIn 29 = .ok (.astore 5, 2) := by decide +kernel
theorem dX6_wheelIn_31 : decode cX6_wheelIn 31 = .ok (.aload 5, 2) := by decide +kernel
theorem dX6_wheelIn_33 : decode cX6_wheelIn 33 = .ok (.getfield 129, 3) := by decide +kernel
theorem dX6_wheelIn_36 : decode cX6_wheelIn 36 = .ok (.aload_n 1, 1) := by decide +kernel
theorem dX6_wheelIn_37 : decode cX6_wheelIn 37 = .ok (.if_acmp .ne 25, 3) := by decide +kernel
theorem dX6_wheelIn_40 : decode cX6_wheelIn 40 = .ok (.aload 5, 2) := by decide +kernel
theorem dX6_wheelIn_42 : decode cX6_wheelIn 42 = .ok (.getfield 345, 3) := by decide +kernel
theorem dX6_wheelIn_45 : decode cX6_wheelIn 45 = .ok (.ifnull 17, 3) := by decide +kernel
theorem dX6_wheelIn_48 : decode cX6_wheelIn 48 = .ok (.iload_n 3, 1) := by decide +kernel
theorem dX6_wheelIn_49 : decode cX6_wheelIn 49 = .ok (.iload_n 2, 1) := by decide +kernel
theorem dX6_wheelIn_50 : decode cX6_wheelIn 50 = .ok (.if_icmp .ne 9, 3) := by decide +kernel
theorem dX6_wheelIn_53 : decode cX6_wheelIn 53 = .ok (.aload 5, 2) := by decide +kernel
theorem dX6_wheelIn_55 : decode cX6_wheelIn 55 = .ok (.getfield 345, 3) := by decide +kernel
theorem dX6_wheelIn_58 : decode cX6_wheelIn 58 = .ok (.areturn, 1) := by decide +kernel
theorem dX6_wheelIn_59 : decode cX6_wheelIn 59 = .ok (.iinc 3 1, 3) := by decide +kernel
theorem dX6_wheelIn_62 : decode cX6_wheelIn 62 = .ok (.iinc 4 1, 3) := by decide +kernel
theorem dX6_wheelIn_65 : decode cX6_wheelIn 65 = .ok (.goto (-60), 3) := by decide +kernel
theorem dX6_wheelIn_68 : decode cX6_wheelIn 68 = .ok (.aconst_null, 1) := by decide +kernel
theorem dX6_wheelIn_69 : decode cX6_wheelIn 69 = .ok (.areturn, 1) := by decide +kernel
theorem dX6_quarantineTree_0 : decode cX6_quarantineTree 0 = .ok (.iconst 0, 1) := by decide +kernel
theorem dX6_quarantineTree_1 : decode cX6_quarantineTree 1 = .ok (.istore_n 2, 1) := by decide +kernel
theorem dX6_quarantineTree_2 : decode cX6_quarantineTree 2 = .ok (.iload_n 2, 1) := by decide +kernel
theorem dX6_quarantineTree_3 : decode cX6_quarantineTree 3 = .ok (.aload_n 0, 1) := by decide +kernel
theorem dX6_quarantineTree_4 : decode cX6_quarantineTree 4 = .ok (.getfield 10, 3) := by decide +kernel
theorem dX6_quarantineTree_7 : decode cX6_quarantineTree 7 = .ok (.invokevirtual 52, 3) := by decide +kernel
theorem dX6_quarantineTree_10 : decode cX6_quarantineTree 10 = .ok (.if_icmp .ge 34, 3) := by decide +kernel
theorem dX6_quarantineTree_13 : decode cX6_quarantineTree 13 = .ok (.aload_n 0, 1) := by decide +kernel
theorem dX6_quarantineTree_14 : decode cX6_quarantineTree 14 = .ok (.getfield 10, 3) := by decide +kernel
theorem dX6_quarantineTree_17 : decode cX6_quarantineTree 17 = .ok (.iload_n 2, 1) := by decide +kernel
theorem dX6_quarantineTree_18 : decode cX6_quarantineTree 18 = .ok (.invokevirtual 171, 3) := by decide +kernel
theorem dX6_quarantineTree_21 : decode cX6_quarantineTree 21 = .ok (.checkcast 61, 3) := by decide +kernel
theorem dX6_quarantineTree_24 : decode cX6_quarantineTree 24 = .ok (.astore_n 3, 1) := by decide +kernel
theorem dX6_quarantineTree_25 : decode cX6_quarantineTree 25 = .ok (.aload_n 3, 1) := by decide +kernel
theorem dX6_quarantineTree_26 : decode cX6_quarantineTree 26 = .ok (.invokevirtual 137, 3) := by decide +kernel
theorem dX6_quarantineTree_29 : decode cX6_quarantineTree 29 = .ok (.aload_n 1, 1) := by decide +kernel
theorem dX6_quarantineTree_30 : decode cX6_quarantineTree 30 = .ok (.if_acmp .ne 8, 3) := by decide +kernel
theorem dX6_quarantineTree_33 : decode cX6_quarantineTree 33 = .ok (.aload_n 3, 1) := by decide +kernel
theorem dX6_quarantineTree_34 : decode cX6_quarantineTree 34 = .ok (.iconst 1, 1) := by decide +kernel
theorem dX6_quarantineTree_35 : decode cX6_quarantineTree 35 = .ok (.putfield 100, 3) := by decide +kernel
theorem dX6_quarantineTree_38 : decode cX6_quarantineTree 38 = .ok (.iinc 2 1, 3) := by decide +kernel
theorem dX6_quarantineTree_41 : decode cX6_quarantineTree 41 = .ok (.goto (-39), 3) := by decide +kernel
theorem dX6_quarantineTree_44 : decode cX6_quarantineTree 44 = .ok (.return_, 1) := by decide +kernel
theorem dX6_rubbing_0 : decode cX6_rubbing 0 = .ok (.iload_n 0, 1) := by decide +kernel
theorem dX6_rubbing_1 : decode cX6_rubbing 1 = .ok (.lookupswitch 31 #[(0, 27), (2, 29)], 27) := by decide +kernel
theorem dX6_rubbing_28 : decode cX6_rubbing 28 = .ok (.iconst 1, 1) := by decide +kernel
theorem dX6_rubbing_29 : decode cX6_rubbing 29 = .ok (.ireturn, 1) := by decide +kernel
theorem dX6_rubbing_30 : decode cX6_rubbing 30 = .ok (.iconst 3, 1) := by decide +kernel
theorem dX6_rubbing_31 : decode cX6_rubbing 31 = .ok (.ireturn, 1) := by decide +kernel
theorem dX6_rubbing_32 : decode cX6_rubbing 32 = .ok (.iconst 2, 1) := by decide +kernel
theorem dX6_rubbing_33 : decode cX6_rubbing 33 = .ok (.ireturn, 1) := by decide +kernel
theorem dX6_firstBar_0 : decode cX6_firstBar 0 = .ok (.iconst 1, 1) := by decide +kernel
theorem dX6_firstBar_1 : decode cX6_firstBar 1 = .ok (.istore_n 2, 1) := by decide +kernel
theorem dX6_firstBar_2 : decode cX6_firstBar 2 = .ok (.iload_n 2, 1) := by decide +kernel
theorem dX6_firstBar_3 : decode cX6_firstBar 3 = .ok (.bipush 7, 2) := by decide +kernel
theorem dX6_firstBar_5 : decode cX6_firstBar 5 = .ok (.if_icmp .gt 21, 3) := by decide +kernel
theorem dX6_firstBar_8 : decode cX6_firstBar 8 = .ok (.aload_n 0, 1) := by decide +kernel
theorem dX6_firstBar_9 : decode cX6_firstBar 9 = .ok (.aload_n 1, 1) := by decide +kernel
theorem dX6_firstBar_10 : decode cX6_firstBar 10 = .ok (.iload_n 2, 1) := by decide +kernel
theorem dX6_firstBar_11 : decode cX6_firstBar 11 = .ok (.invokevirtual 323, 3) := by decide +kernel
theorem dX6_firstBar_14 : decode cX6_firstBar 14 = .ok (.iconst (-1), 1) := by decide +kernel
theorem dX6_firstBar_15 : decode cX6_firstBar 15 = .ok (.if_icmp .eq 5, 3) := by decide +kernel
theorem dX6_firstBar_18 : decode cX6_firstBar 18 = .ok (.iload_n 2, 1) := by decide +kernel
theorem dX6_firstBar_19 : decode cX6_firstBar 19 = .ok (.ireturn, 1) := by decide +kernel
theorem dX6_firstBar_20 : decode cX6_firstBar 20 = .ok (.iinc 2 1, 3) := by decide +kernel
theorem dX6_firstBar_23 : decode cX6_firstBar 23 = .ok (.goto (-21), 3) := by decide +kernel
theorem dX6_firstBar_26 : decode cX6_firstBar 26 = .ok (.iconst 0, 1) := by decide +kernel
theorem dX6_firstBar_27 : decode cX6_firstBar 27 = .ok (.ireturn, 1) := by decide +kernel
theorem dX6_lowestBarring_0 : decode cX6_lowestBarring 0 = .ok (.iconst 0, 1) := by decide +kernel
theorem dX6_lowestBarring_1 : decode cX6_lowestBarring 1 = .ok (.istore_n 3, 1) := by decide +kernel
theorem dX6_lowestBarring_2 : decode cX6_lowestBarring 2 = .ok (.iload_n 3, 1) := by decide +kernel
theorem dX6_lowestBarring_3 : decode cX6_lowestBarring 3 = .ok (.aload_n 0, 1) := by decide +kernel
theorem dX6_lowestBarring_4 : decode cX6_lowestBarring 4 = .ok (.getfield 10, 3) := by decide +kernel
theorem dX6_lowestBarring_7 : decode cX6_lowestBarring 7 = .ok (.invokevirtual 52, 3) := by decide +kernel
theorem dX6_lowestBarring_10 : decode cX6_lowestBarring 10 = .ok (.if_icmp .ge 43, 3) := by decide +kernel
theorem dX6_lowestBarring_13 : decode cX6_lowestBarring 13 = .ok (.aload_n 0, 1) := by decide +kernel
theorem dX6_lowestBarring_14 : decode cX6_lowestBarring 14 = .ok (.getfield 10, 3) := by decide +kernel
theorem dX6_lowestBarring_17 : decode cX6_lowestBarring 17 = .ok (.iload_n 3, 1) := by decide +kernel
theorem dX6_lowestBarring_18 : decode cX6_lowestBarring 18 = .ok (.invokevirtual 171, 3) := by decide +kernel
theorem dX6_lowestBarring_21 : decode cX6_lowestBarring 21 = .ok (.checkcast 61, 3) := by decide +kernel
theorem dX6_lowestBarring_24 : decode cX6_lowestBarring 24 = .ok (.astore 4, 2) := by decide +kernel
theorem dX6_lowestBarring_26 : decode cX6_lowestBarring 26 = .ok (.aload 4, 2) := by decide +kernel
theorem dX6_lowestBarring_28 : decode cX6_lowestBarring 28 = .ok (.invokevirtual 137, 3) := by decide +kernel
theorem dX6_lowestBarring_31 : decode cX6_lowestBarring 31 = .ok (.aload_n 1, 1) := by decide +kernel
theorem dX6_lowestBarring_32 : decode cX6_lowestBarring 32 = .ok (.if_acmp .ne 15, 3) := by decide +kernel
theorem dX6_lowestBarring_35 : decode cX6_lowestBarring 35 = .ok (.aload_n 0, 1) := by decide +kernel
theorem dX6_lowestBarring_36 : decode cX6_lowestBarring 36 = .ok (.aload 4, 2) := by decide +kernel
theorem dX6_lowestBarring_38 : decode cX6_lowestBarring 38 = .ok (.iload_n 2, 1) := by decide +kernel
theorem dX6_lowestBarring_39 : decode cX6_lowestBarring 39 = .ok (.invokevirtual 351, 3) := by decide +kernel
theorem dX6_lowestBarring_42 : decode cX6_lowestBarring 42 = .ok (.ifCond .eq 5, 3) := by decide +kernel
theorem dX6_lowestBarring_45 : decode cX6_lowestBarring 45 = .ok (.iload_n 3, 1) := by decide +kernel
theorem dX6_lowestBarring_46 : decode cX6_lowestBarring 46 = .ok (.ireturn, 1) := by decide +kernel
theorem dX6_lowestBarring_47 : decode cX6_lowestBarring 47 = .ok (.iinc 3 1, 3) := by decide +kernel
theorem dX6_lowestBarring_50 : decode cX6_lowestBarring 50 = .ok (.goto (-48), 3) := by decide +kernel
theorem dX6_lowestBarring_53 : decode cX6_lowestBarring 53 = .ok (.iconst (-1), 1) := by decide +kernel
theorem dX6_lowestBarring_54 : decode cX6_lowestBarring 54 = .ok (.ireturn, 1) := by decide +kernel
theorem dX6_isSo_0 : decode cX6_isSo 0 = .ok (.iload_n 2, 1) := by decide +kernel
theorem dX6_isSo_1 : decode cX6_isSo 1 = .ok (.tableswitch 123 1 7 #[43, 49, 54, 59, 89, 112, 118], 43) := by decide +kernel
theorem dX6_isSo_44 : decode cX6_isSo 44 = .ok (.aload_n 0, 1) := by decide +kernel
theorem dX6_isSo_45 : decode cX6_isSo 45 = .ok (.aload_n 1, 1) := by decide +kernel
theorem dX6_isSo_46 : decode cX6_isSo 46 = .ok (.invokevirtual 355, 3) := by decide +kernel
theorem dX6_isSo_49 : decode cX6_isSo 49 = .ok (.ireturn, 1) := by decide +kernel
theorem dX6_isSo_50 : decode cX6_isSo 50 = .ok (.aload_n 1, 1) := by decide +kernel
theorem dX6_isSo_51 : decode cX6_isSo 51 = .ok (.getfield 100, 3) := by decide +kernel
theorem dX6_isSo_54 : decode cX6_isSo 54 = .ok (.ireturn, 1) := by decide +kernel
theorem dX6_isSo_55 : decode cX6_isSo 55 = .ok (.aload_n 1, 1) := by decide +kernel
theorem dX6_isSo_56 : decode cX6_isSo 56 = .ok (.getfield 248, 3) := by decide +kernel
theorem dX6_isSo_59 : decode cX6_isSo 59 = .ok (.ireturn, 1) := by decide +kernel
theorem dX6_isSo_60 : decode cX6_isSo 60 = .ok (.aload_n 1, 1) := by decide +kernel
theorem dX6_isSo_61 : decode cX6_isSo 61 = .ok (.getfield 232, 3) := by decide +kernel
theorem dX6_isSo_64 : decode cX6_isSo 64 = .ok (.getfield 73, 3) := by decide +kernel
theorem dX6_isSo_67 : decode cX6_isSo 67 = .ok (.ifCond .le 21, 3) := by decide +kernel
theorem dX6_isSo_70 : decode cX6_isSo 70 = .ok (.aload_n 1, 1) := by decide +kernel
theorem dX6_isSo_71 : decode cX6_isSo 71 = .ok (.getfield 242, 3) := by decide +kernel
theorem dX6_isSo_74 : decode cX6_isSo 74 = .ok (.aload_n 1, 1) := by decide +kernel
theorem dX6_isSo_75 : decode cX6_isSo 75 = .ok (.getfield 232, 3) := by decide +kernel
theorem dX6_isSo_78 : decode cX6_isSo 78 = .ok (.getfield 73, 3) := by decide +kernel
theorem dX6_isSo_81 : decode cX6_isSo 81 = .ok (.if_icmp .le 7, 3) := by decide +kernel
theorem dX6_isSo_84 : decode cX6_isSo 84 = .ok (.iconst 1, 1) := by decide +kernel
theorem dX6_isSo_85 : decode cX6_isSo 85 = .ok (.goto 4, 3) := by decide +kernel
theorem dX6_isSo_88 : decode cX6_isSo 88 = .ok (.iconst 0, 1) := by decide +kernel
theorem dX6_isSo_89 : decode cX6_isSo 89 = .ok (.ireturn, 1) := by decide +kernel
theorem dX6_isSo_90 : decode cX6_isSo 90 = .ok (.aload_n 1, 1) := by decide +kernel
theorem dX6_isSo_91 : decode cX6_isSo 91 = .ok (.getfield 345, 3) := by decide +kernel
theorem dX6_isSo_94 : decode cX6_isSo 94 = .ok (.ifnull 17, 3) := by decide +kernel
theorem dX6_isSo_97 : decode cX6_isSo 97 = .ok (.aload_n 1, 1) := by decide +kernel
theorem dX6_isSo_98 : decode cX6_isSo 98 = .ok (.getfield 345, 3) := by decide +kernel
theorem dX6_isSo_101 : decode cX6_isSo 101 = .ok (.invokevirtual 358, 3) := by decide +kernel
theorem dX6_isSo_104 : decode cX6_isSo 104 = .ok (.ifCond .eq 7, 3) := by decide +kernel
theorem dX6_isSo_107 : decode cX6_isSo 107 = .ok (.iconst 1, 1) := by decide +kernel
theorem dX6_isSo_108 : decode cX6_isSo 108 = .ok (.goto 4, 3) := by decide +kernel
theorem dX6_isSo_111 : decode cX6_isSo 111 = .ok (.iconst 0, 1) := by decide +kernel
theorem dX6_isSo_112 : decode cX6_isSo 112 = .ok (.ireturn, 1) := by decide +kernel
theorem dX6_isSo_113 : decode cX6_isSo 113 = .ok (.aload_n 0, 1) := by decide +kernel
theorem dX6_isSo_114 : decode cX6_isSo 114 = .ok (.aload_n 1, 1) := by decide +kernel
theorem dX6_isSo_115 : decode cX6_isSo 115 = .ok (.invokevirtual 361, 3) := by decide +kernel
theorem dX6_isSo_118 : decode cX6_isSo 118 = .ok (.ireturn, 1) := by decide +kernel
theorem dX6_isSo_119 : decode cX6_isSo 119 = .ok (.aload_n 1, 1) := by decide +kernel
theorem dX6_isSo_120 : decode cX6_isSo 120 = .ok (.invokevirtual 364, 3) := by decide +kernel
theorem dX6_isSo_123 : decode cX6_isSo 123 = .ok (.ireturn, 1) := by decide +kernel
theorem dX6_isSo_124 : decode cX6_isSo 124 = .ok (.iconst 0, 1) := by decide +kernel
theorem dX6_isSo_125 : decode cX6_isSo 125 = .ok (.ireturn, 1) := by decide +kernel
theorem dX6_hasEmptyPlace_0 : decode cX6_hasEmptyPlace 0 = .ok (.iconst 0, 1) := by decide +kernel
theorem dX6_hasEmptyPlace_1 : decode cX6_hasEmptyPlace 1 = .ok (.istore_n 2, 1) := by decide +kernel
theorem dX6_hasEmptyPlace_2 : decode cX6_hasEmptyPlace 2 = .ok (.iload_n 2, 1) := by decide +kernel
theorem dX6_hasEmptyPlace_3 : decode cX6_hasEmptyPlace 3 = .ok (.iconst 4, 1) := by decide +kernel
theorem dX6_hasEmptyPlace_4 : decode cX6_hasEmptyPlace 4 = .ok (.if_icmp .gt 28, 3) := by decide +kernel
theorem dX6_hasEmptyPlace_7 : decode cX6_hasEmptyPlace 7 = .ok (.aload_n 0, 1) := by decide +kernel
theorem dX6_hasEmptyPlace_8 : decode cX6_hasEmptyPlace 8 = .ok (.aload_n 1, 1) := by decide +kernel
theorem dX6_hasEmptyPlace_9 : decode cX6_hasEmptyPlace 9 = .ok (.iload_n 2, 1) := by decide +kernel
theorem dX6_hasEmptyPlace_10 : decode cX6_hasEmptyPlace 10 = .ok (.invokevirtual 112, 3) := by decide +kernel
theorem dX6_hasEmptyPlace_13 : decode cX6_hasEmptyPlace 13 = .ok (.aload_n 1, 1) := by decide +kernel
theorem dX6_hasEmptyPlace_14 : decode cX6_hasEmptyPlace 14 = .ok (.getfield 87, 3) := by decide +kernel
theorem dX6_hasEmptyPlace_17 : decode cX6_hasEmptyPlace 17 = .ok (.iload_n 2, 1) := by decide +kernel
theorem dX6_hasEmptyPlace_18 : decode cX6_hasEmptyPlace 18 = .ok (.invokestatic 90, 3) := by decide +kernel
theorem dX6_hasEmptyPlace_21 : decode cX6_hasEmptyPlace 21 = .ok (.if_icmp .ge 5, 3) := by decide +kernel
theorem dX6_hasEmptyPlace_24 : decode cX6_hasEmptyPlace 24 = .ok (.iconst 1, 1) := by decide +kernel
theorem dX6_hasEmptyPlace_25 : decode cX6_hasEmptyPlace 25 = .ok (.ireturn, 1) := by decide +kernel
theorem dX6_hasEmptyPlace_26 : decode cX6_hasEmptyPlace 26 = .ok (.iinc 2 1, 3) := by decide +kernel
theorem dX6_hasEmptyPlace_29 : decode cX6_hasEmptyPlace 29 = .ok (.goto (-27), 3) := by decide +kernel
theorem dX6_hasEmptyPlace_32 : decode cX6_hasEmptyPlace 32 = .ok (.iconst 0, 1) := by decide +kernel
theorem dX6_hasEmptyPlace_33 : decode cX6_hasEmptyPlace 33 = .ok (.ireturn, 1) := by decide +kernel
theorem dX6_isApart_0 : decode cX6_isApart 0 = .ok (.aload_n 1, 1) := by decide +kernel
theorem dX6_isApart_1 : decode cX6_isApart 1 = .ok (.getfield 87, 3) := by decide +kernel
theorem dX6_isApart_4 : decode cX6_isApart 4 = .ok (.iconst 2, 1) := by decide +kernel
theorem dX6_isApart_5 : decode cX6_isApart 5 = .ok (.if_icmp .ne 13, 3) := by decide +kernel
theorem dX6_isApart_8 : decode cX6_isApart 8 = .ok (.aload_n 0, 1) := by decide +kernel
theorem dX6_isApart_9 : decode cX6_isApart 9 = .ok (.aload_n 1, 1) := by decide +kernel
theorem dX6_isApart_10 : decode cX6_isApart 10 = .ok (.invokevirtual 367, 3) := by decide +kernel
theorem dX6_isApart_13 : decode cX6_isApart 13 = .ok (.bipush 20, 2) := by decide +kernel
theorem dX6_isApart_15 : decode cX6_isApart 15 = .ok (.if_icmp .gt 21, 3) := by decide +kernel
theorem dX6_isApart_18 : decode cX6_isApart 18 = .ok (.aload_n 1, 1) := by decide +kernel
theorem dX6_isApart_19 : decode cX6_isApart 19 = .ok (.getfield 87, 3) := by decide +kernel
theorem dX6_isApart_22 : decode cX6_isApart 22 = .ok (.iconst 1, 1) := by decide +kernel
theorem dX6_isApart_23 : decode cX6_isApart 23 = .ok (.if_icmp .ne 17, 3) := by decide +kernel
theorem dX6_isApart_26 : decode cX6_isApart 26 = .ok (.aload_n 0, 1) := by decide +kernel
theorem dX6_isApart_27 : decode cX6_isApart 27 = .ok (.aload_n 1, 1) := by decide +kernel
theorem dX6_isApart_28 : decode cX6_isApart 28 = .ok (.invokevirtual 367, 3) := by decide +kernel
theorem dX6_isApart_31 : decode cX6_isApart 31 = .ok (.bipush 60, 2) := by decide +kernel
theorem dX6_isApart_33 : decode cX6_isApart 33 = .ok (.if_icmp .le 7, 3) := by decide +kernel
theorem dX6_isApart_36 : decode cX6_isApart 36 = .ok (.iconst 1, 1) := by decide +kernel
theorem dX6_isApart_37 : decode cX6_isApart 37 = .ok (.goto 4, 3) := by decide +kernel
theorem dX6_isApart_40 : decode cX6_isApart 40 = .ok (.iconst 0, 1) := by decide +kernel
theorem dX6_isApart_41 : decode cX6_isApart 41 = .ok (.ireturn, 1) := by decide +kernel
theorem dX6_spreadIn_0 : decode cX6_spreadIn 0 = .ok (.sipush 9000, 3) := by decide +kernel
theorem dX6_spreadIn_3 : decode cX6_spreadIn 3 = .ok (.istore_n 2, 1) := by decide +kernel
theorem dX6_spreadIn_4 : decode cX6_spreadIn 4 = .ok (.iconst 0, 1) := by decide +kernel
theorem dX6_spreadIn_5 : decode cX6_spreadIn 5 = .ok (.istore_n 3, 1) := by decide +kernel
theorem dX6_spreadIn_6 : decode cX6_spreadIn 6 = .ok (.iconst 0, 1) := by decide +kernel
theorem dX6_spreadIn_7 : decode cX6_spreadIn 7 = .ok (.istore 4, 2) := by decide +kernel
theorem dX6_spreadIn_9 : decode cX6_spreadIn 9 = .ok (.iload 4, 2) := by decide +kernel
theorem dX6_spreadIn_11 : decode cX6_spreadIn 11 = .ok (.aload_n 0, 1) := by decide +kernel
theorem dX6_spreadIn_12 : decode cX6_spreadIn 12 = .ok (.getfield 10, 3) := by decide +kernel
theorem dX6_spreadIn_15 : decode cX6_spreadIn 15 = .ok (.invokevirtual 52, 3) := by decide +kernel
theorem dX6_spreadIn_18 : decode cX6_spreadIn 18 = .ok (.if_icmp .ge 66, 3) := by decide +kernel
theorem dX6_spreadIn_21 : decode cX6_spreadIn 21 = .ok (.aload_n 0, 1) := by decide +kernel
theorem dX6_spreadIn_22 : decode cX6_spreadIn 22 = .ok (.getfield 10, 3) := by decide +kernel
theorem dX6_spreadIn_25 : decode cX6_spreadIn 25 = .ok (.iload 4, 2) := by decide +kernel
theorem dX6_spreadIn_27 : decode cX6_spreadIn 27 = .ok (.invokevirtual 171, 3) := by decide +kernel
theorem dX6_spreadIn_30 : decode cX6_spreadIn 30 = .ok (.checkcast 61, 3) := by decide +kernel
theorem dX6_spreadIn_33 : decode cX6_spreadIn 33 = .ok (.astore 5, 2) := by decide +kernel
theorem dX6_spreadIn_35 : decode cX6_spreadIn 35 = .ok (.aload 5, 2) := by decide +kernel
theorem dX6_spreadIn_37 : decode cX6_spreadIn 37 = .ok (.getfield 345, 3) := by decide +kernel
theorem dX6_spreadIn_40 : decode cX6_spreadIn 40 = .ok (.ifnull 38, 3) := by decide +kernel
theorem dX6_spreadIn_43 : decode cX6_spreadIn 43 = .ok (.aload 5, 2) := by decide +kernel
theorem dX6_spreadIn_45 : decode cX6_spreadIn 45 = .ok (.aload_n 1, 1) := by decide +kernel
theorem dX6_spreadIn_46 : decode cX6_spreadIn 46 = .ok (.invokevirtual 370, 3) := by decide +kernel
theorem dX6_spreadIn_49 : decode cX6_spreadIn 49 = .ok (.ifCond .eq 29, 3) := by decide +kernel
theorem dX6_spreadIn_52 : decode cX6_spreadIn 52 = .ok (.iload_n 2, 1) := by decide +kernel
theorem dX6_spreadIn_53 : decode cX6_spreadIn 53 = .ok (.aload 5, 2) := by decide +kernel
theorem dX6_spreadIn_55 : decode cX6_spreadIn 55 = .ok (.getfield 345, 3) := by decide +kernel
theorem dX6_spreadIn_58 : decode cX6_spreadIn 58 = .ok (.getfield 196, 3) := by decide +kernel
theorem dX6_spreadIn_61 : decode cX6_spreadIn 61 = .ok (.invokestatic 204, 3) := by decide +kernel
theorem dX6_spreadIn_64 : decode cX6_spreadIn 64 = .ok (.istore_n 2, 1) := by decide +kernel
theorem dX6_spreadIn_65 : decode cX6_spreadIn 65 = .ok (.iload_n 3, 1) := by decide +kernel
theorem dX6_spreadIn_66 : decode cX6_spreadIn 66 = .ok (.aload 5, 2) := by decide +kernel
theorem dX6_spreadIn_68 : decode cX6_spreadIn 68 = .ok (.getfield 345, 3) := by decide +kernel
theorem dX6_spreadIn_71 : decode cX6_spreadIn 71 = .ok (.getfield 196, 3) := by decide +kernel
theorem dX6_spreadIn_74 : decode cX6_spreadIn 74 = .ok (.invokestatic 320, 3) := by decide +kernel
theorem dX6_spreadIn_77 : decode cX6_spreadIn 77 = .ok (.istore_n 3, 1) := by decide +kernel
theorem dX6_spreadIn_78 : decode cX6_spreadIn 78 = .ok (.iinc 4 1, 3) := by decide +kernel
theorem dX6_spreadIn_81 : decode cX6_spreadIn 81 = .ok (.goto (-72), 3) := by decide +kernel
theorem dX6_spreadIn_84 : decode cX6_spreadIn 84 = .ok (.iload_n 3, 1) := by decide +kernel
theorem dX6_spreadIn_85 : decode cX6_spreadIn 85 = .ok (.iload_n 2, 1) := by decide +kernel
theorem dX6_spreadIn_86 : decode cX6_spreadIn 86 = .ok (.isub, 1) := by decide +kernel
theorem dX6_spreadIn_87 : decode cX6_spreadIn 87 = .ok (.ireturn, 1) := by decide +kernel
theorem dJ6_bitCount_0f7a4_0 : decode cJ6_bitCount_0f7a4 0 = .ok (.iload_n 0, 1) := by decide +kernel
theorem dJ6_bitCount_0f7a4_1 : decode cJ6_bitCount_0f7a4 1 = .ok (.iload_n 0, 1) := by decide +kernel
theorem dJ6_bitCount_0f7a4_2 : decode cJ6_bitCount_0f7a4 2 = .ok (.iconst 1, 1) := by decide +kernel
theorem dJ6_bitCount_0f7a4_3 : decode cJ6_bitCount_0f7a4 3 = .ok (.iushr, 1) := by decide +kernel
theorem dJ6_bitCount_0f7a4_4 : decode cJ6_bitCount_0f7a4 4 = .ok (.ldc_w 265, 3) := by decide +kernel
theorem dJ6_bitCount_0f7a4_7 : decode cJ6_bitCount_0f7a4 7 = .ok (.iand, 1) := by decide +kernel
theorem dJ6_bitCount_0f7a4_8 : decode cJ6_bitCount_0f7a4 8 = .ok (.isub, 1) := by decide +kernel
theorem dJ6_bitCount_0f7a4_9 : decode cJ6_bitCount_0f7a4 9 = .ok (.istore_n 0, 1) := by decide +kernel
theorem dJ6_bitCount_0f7a4_10 : decode cJ6_bitCount_0f7a4 10 = .ok (.iload_n 0, 1) := by decide +kernel
theorem dJ6_bitCount_0f7a4_11 : decode cJ6_bitCount_0f7a4 11 = .ok (.ldc_w 266, 3) := by decide +kernel
theorem dJ6_bitCount_0f7a4_14 : decode cJ6_bitCount_0f7a4 14 = .ok (.iand, 1) := by decide +kernel
theorem dJ6_bitCount_0f7a4_15 : decode cJ6_bitCount_0f7a4 15 = .ok (.iload_n 0, 1) := by decide +kernel
theorem dJ6_bitCount_0f7a4_16 : decode cJ6_bitCount_0f7a4 16 = .ok (.iconst 2, 1) := by decide +kernel
theorem dJ6_bitCount_0f7a4_17 : decode cJ6_bitCount_0f7a4 17 = .ok (.iushr, 1) := by decide +kernel
theorem dJ6_bitCount_0f7a4_18 : decode cJ6_bitCount_0f7a4 18 = .ok (.ldc_w 266, 3) := by decide +kernel
theorem dJ6_bitCount_0f7a4_21 : decode cJ6_bitCount_0f7a4 21 = .ok (.iand, 1) := by decide +kernel
theorem dJ6_bitCount_0f7a4_22 : decode cJ6_bitCount_0f7a4 22 = .ok (.iadd, 1) := by decide +kernel
theorem dJ6_bitCount_0f7a4_23 : decode cJ6_bitCount_0f7a4 23 = .ok (.istore_n 0, 1) := by decide +kernel
theorem dJ6_bitCount_0f7a4_24 : decode cJ6_bitCount_0f7a4 24 = .ok (.iload_n 0, 1) := by decide +kernel
theorem dJ6_bitCount_0f7a4_25 : decode cJ6_bitCount_0f7a4 25 = .ok (.iload_n 0, 1) := by decide +kernel
theorem dJ6_bitCount_0f7a4_26 : decode cJ6_bitCount_0f7a4 26 = .ok (.iconst 4, 1) := by decide +kernel
theorem dJ6_bitCount_0f7a4_27 : decode cJ6_bitCount_0f7a4 27 = .ok (.iushr, 1) := by decide +kernel
theorem dJ6_bitCount_0f7a4_28 : decode cJ6_bitCount_0f7a4 28 = .ok (.iadd, 1) := by decide +kernel
theorem dJ6_bitCount_0f7a4_29 : decode cJ6_bitCount_0f7a4 29 = .ok (.ldc_w 267, 3) := by decide +kernel
theorem dJ6_bitCount_0f7a4_32 : decode cJ6_bitCount_0f7a4 32 = .ok (.iand, 1) := by decide +kernel
theorem dJ6_bitCount_0f7a4_33 : decode cJ6_bitCount_0f7a4 33 = .ok (.istore_n 0, 1) := by decide +kernel
theorem dJ6_bitCount_0f7a4_34 : decode cJ6_bitCount_0f7a4 34 = .ok (.iload_n 0, 1) := by decide +kernel
theorem dJ6_bitCount_0f7a4_35 : decode cJ6_bitCount_0f7a4 35 = .ok (.iload_n 0, 1) := by decide +kernel
theorem dJ6_bitCount_0f7a4_36 : decode cJ6_bitCount_0f7a4 36 = .ok (.bipush 8, 2) := by decide +kernel
theorem dJ6_bitCount_0f7a4_38 : decode cJ6_bitCount_0f7a4 38 = .ok (.iushr, 1) := by decide +kernel
theorem dJ6_bitCount_0f7a4_39 : decode cJ6_bitCount_0f7a4 39 = .ok (.iadd, 1) := by decide +kernel
theorem dJ6_bitCount_0f7a4_40 : decode cJ6_bitCount_0f7a4 40 = .ok (.istore_n 0, 1) := by decide +kernel
theorem dJ6_bitCount_0f7a4_41 : decode cJ6_bitCount_0f7a4 41 = .ok (.iload_n 0, 1) := by decide +kernel
theorem dJ6_bitCount_0f7a4_42 : decode cJ6_bitCount_0f7a4 42 = .ok (.iload_n 0, 1) := by decide +kernel
theorem dJ6_bitCount_0f7a4_43 : decode cJ6_bitCount_0f7a4 43 = .ok (.bipush 16, 2) := by decide +kernel
theorem dJ6_bitCount_0f7a4_45 : decode cJ6_bitCount_0f7a4 45 = .ok (.iushr, 1) := by decide +kernel
theorem dJ6_bitCount_0f7a4_46 : decode cJ6_bitCount_0f7a4 46 = .ok (.iadd, 1) := by decide +kernel
theorem dJ6_bitCount_0f7a4_47 : decode cJ6_bitCount_0f7a4 47 = .ok (.istore_n 0, 1) := by decide +kernel
theorem dJ6_bitCount_0f7a4_48 : decode cJ6_bitCount_0f7a4 48 = .ok (.iload_n 0, 1) := by decide +kernel
theorem dJ6_bitCount_0f7a4_49 : decode cJ6_bitCount_0f7a4 49 = .ok (.bipush 63, 2) := by decide +kernel
theorem dJ6_bitCount_0f7a4_51 : decode cJ6_bitCount_0f7a4 51 = .ok (.iand, 1) := by decide +kernel
theorem dJ6_bitCount_0f7a4_52 : decode cJ6_bitCount_0f7a4 52 = .ok (.ireturn, 1) := by decide +kernel
theorem dJ9_abs_0f7a4_0 : decode cJ9_abs_0f7a4 0 = .ok (.iload_n 0, 1) := by decide +kernel
theorem dJ9_abs_0f7a4_1 : decode cJ9_abs_0f7a4 1 = .ok (.ifCond .ge 8, 3) := by decide +kernel
theorem dJ9_abs_0f7a4_4 : decode cJ9_abs_0f7a4 4 = .ok (.iload_n 0, 1) := by decide +kernel
theorem dJ9_abs_0f7a4_5 : decode cJ9_abs_0f7a4 5 = .ok (.ineg, 1) := by decide +kernel
theorem dJ9_abs_0f7a4_6 : decode cJ9_abs_0f7a4 6 = .ok (.goto 4, 3) := by decide +kernel
theorem dJ9_abs_0f7a4_9 : decode cJ9_abs_0f7a4 9 = .ok (.iload_n 0, 1) := by decide +kernel
theorem dJ9_abs_0f7a4_10 : decode cJ9_abs_0f7a4 10 = .ok (.ireturn, 1) := by decide +kernel
theorem dJ9_max_7cf53_0 : decode cJ9_max_7cf53 0 = .ok (.iload_n 0, 1) := by decide +kernel
theorem dJ9_max_7cf53_1 : decode cJ9_max_7cf53 1 = .ok (.iload_n 1, 1) := by decide +kernel
theorem dJ9_max_7cf53_2 : decode cJ9_max_7cf53 2 = .ok (.if_icmp .lt 7, 3) := by decide +kernel
theorem dJ9_max_7cf53_5 : decode cJ9_max_7cf53 5 = .ok (.iload_n 0, 1) := by decide +kernel
theorem dJ9_max_7cf53_6 : decode cJ9_max_7cf53 6 = .ok (.goto 4, 3) := by decide +kernel
theorem dJ9_max_7cf53_9 : decode cJ9_max_7cf53 9 = .ok (.iload_n 1, 1) := by decide +kernel
theorem dJ9_max_7cf53_10 : decode cJ9_max_7cf53 10 = .ok (.ireturn, 1) := by decide +kernel
theorem dJ9_min_7cf53_0 : decode cJ9_min_7cf53 0 = .ok (.iload_n 0, 1) := by decide +kernel
theorem dJ9_min_7cf53_1 : decode cJ9_min_7cf53 1 = .ok (.iload_n 1, 1) := by decide +kernel
theorem dJ9_min_7cf53_2 : decode cJ9_min_7cf53 2 = .ok (.if_icmp .gt 7, 3) := by decide +kernel
theorem dJ9_min_7cf53_5 : decode cJ9_min_7cf53 5 = .ok (.iload_n 0, 1) := by decide +kernel
theorem dJ9_min_7cf53_6 : decode cJ9_min_7cf53 6 = .ok (.goto 4, 3) := by decide +kernel
theorem dJ9_min_7cf53_9 : decode cJ9_min_7cf53 9 = .ok (.iload_n 1, 1) := by decide +kernel
theorem dJ9_min_7cf53_10 : decode cJ9_min_7cf53 10 = .ok (.ireturn, 1) := by decide +kernel
theorem dJxa1e45_init_da8c8_0 : decode cJxa1e45_init_da8c8 0 = .ok (.aload_n 0, 1) := by decide +kernel
theorem dJxa1e45_init_da8c8_1 : decode cJxa1e45_init_da8c8 1 = .ok (.invokespecial 1, 3) := by decide +kernel
theorem dJxa1e45_init_da8c8_4 : decode cJxa1e45_init_da8c8 4 = .ok (.return_, 1) := by decide +kernel
theorem dJxc12de_init_da8c8_0 : decode cJxc12de_init_da8c8 0 = .ok (.aload_n 0, 1) := by decide +kernel
theorem dJxc12de_init_da8c8_1 : decode cJxc12de_init_da8c8 1 = .ok (.invokespecial 1, 3) := by decide +kernel
theorem dJxc12de_init_da8c8_4 : decode cJxc12de_init_da8c8 4 = .ok (.aload_n 0, 1) := by decide +kernel
theorem dJxc12de_init_da8c8_5 : decode cJxc12de_init_da8c8 5 = .ok (.iconst 0, 1) := by decide +kernel
theorem dJxc12de_init_da8c8_6 : decode cJxc12de_init_da8c8 6 = .ok (.putfield 7, 3) := by decide +kernel
theorem dJxc12de_init_da8c8_9 : decode cJxc12de_init_da8c8 9 = .ok (.return_, 1) := by decide +kernel
theorem dJx4a65c_init_da8c8_0 : decode cJx4a65c_init_da8c8 0 = .ok (.aload_n 0, 1) := by decide +kernel
theorem dJx4a65c_init_da8c8_1 : decode cJx4a65c_init_da8c8 1 = .ok (.invokespecial 1, 3) := by decide +kernel
theorem dJx4a65c_init_da8c8_4 : decode cJx4a65c_init_da8c8 4 = .ok (.aload_n 0, 1) := by decide +kernel
theorem dJx4a65c_init_da8c8_5 : decode cJx4a65c_init_da8c8 5 = .ok (.getstatic 39, 3) := by decide +kernel
theorem dJx4a65c_init_da8c8_8 : decode cJx4a65c_init_da8c8 8 = .ok (.putfield 9, 3) := by decide +kernel
theorem dJx4a65c_init_da8c8_11 : decode cJx4a65c_init_da8c8 11 = .ok (.return_, 1) := by decide +kernel
theorem dJx4a65c_grow_92f84_0 : decode cJx4a65c_grow_92f84 0 = .ok (.aload_n 0, 1) := by decide +kernel
theorem dJx4a65c_grow_92f84_1 : decode cJx4a65c_grow_92f84 1 = .ok (.getfield 9, 3) := by decide +kernel
theorem dJx4a65c_grow_92f84_4 : decode cJx4a65c_grow_92f84 4 = .ok (.arraylength, 1) := by decide +kernel
theorem dJx4a65c_grow_92f84_5 : decode cJx4a65c_grow_92f84 5 = .ok (.istore_n 2, 1) := by decide +kernel
theorem dJx4a65c_grow_92f84_6 : decode cJx4a65c_grow_92f84 6 = .ok (.iload_n 2, 1) := by decide +kernel
theorem dJx4a65c_grow_92f84_7 : decode cJx4a65c_grow_92f84 7 = .ok (.ifCond .gt 13, 3) := by decide +kernel
theorem dJx4a65c_grow_92f84_10 : decode cJx4a65c_grow_92f84 10 = .ok (.aload_n 0, 1) := by decide +kernel
theorem dJx4a65c_grow_92f84_11 : decode cJx4a65c_grow_92f84 11 = .ok (.getfield 9, 3) := by decide +kernel
theorem dJx4a65c_grow_92f84_14 : decode cJx4a65c_grow_92f84 14 = .ok (.getstatic 39, 3) := by decide +kernel
theorem dJx4a65c_grow_92f84_17 : decode cJx4a65c_grow_92f84 17 = .ok (.if_acmp .eq 28, 3) := by decide +kernel
theorem dJx4a65c_grow_92f84_20 : decode cJx4a65c_grow_92f84 20 = .ok (.iload_n 2, 1) := by decide +kernel
theorem dJx4a65c_grow_92f84_21 : decode cJx4a65c_grow_92f84 21 = .ok (.iload_n 1, 1) := by decide +kernel
theorem dJx4a65c_grow_92f84_22 : decode cJx4a65c_grow_92f84 22 = .ok (.iload_n 2, 1) := by decide +kernel
theorem dJx4a65c_grow_92f84_23 : decode cJx4a65c_grow_92f84 23 = .ok (.isub, 1) := by decide +kernel
theorem dJx4a65c_grow_92f84_24 : decode cJx4a65c_grow_92f84 24 = .ok (.iload_n 2, 1) := by decide +kernel
theorem dJx4a65c_grow_92f84_25 : decode cJx4a65c_grow_92f84 25 = .ok (.iconst 1, 1) := by decide +kernel
theorem dJx4a65c_grow_92f84_26 : decode cJx4a65c_grow_92f84 26 = .ok (.ishr, 1) := by decide +kernel
theorem dJx4a65c_grow_92f84_27 : decode cJx4a65c_grow_92f84 27 = .ok (.invokestatic 73, 3) := by decide +kernel
theorem dJx4a65c_grow_92f84_30 : decode cJx4a65c_grow_92f84 30 = .ok (.istore_n 3, 1) := by decide +kernel
theorem dJx4a65c_grow_92f84_31 : decode cJx4a65c_grow_92f84 31 = .ok (.aload_n 0, 1) := by decide +kernel
theorem dJx4a65c_grow_92f84_32 : decode cJx4a65c_grow_92f84 32 = .ok (.aload_n 0, 1) := by decide +kernel
theorem dJx4a65c_grow_92f84_33 : decode cJx4a65c_grow_92f84 33 = .ok (.getfield 9, 3) := by decide +kernel
theorem dJx4a65c_grow_92f84_36 : decode cJx4a65c_grow_92f84 36 = .ok (.iload_n 3, 1) := by decide +kernel
theorem dJx4a65c_grow_92f84_37 : decode cJx4a65c_grow_92f84 37 = .ok (.invokestatic 66, 3) := by decide +kernel
theorem dJx4a65c_grow_92f84_40 : decode cJx4a65c_grow_92f84 40 = .ok (.dup_x1, 1) := by decide +kernel
theorem dJx4a65c_grow_92f84_41 : decode cJx4a65c_grow_92f84 41 = .ok (.putfield 9, 3) := by decide +kernel
theorem dJx4a65c_grow_92f84_44 : decode cJx4a65c_grow_92f84 44 = .ok (.areturn, 1) := by decide +kernel
theorem dJx4a65c_grow_92f84_45 : decode cJx4a65c_grow_92f84 45 = .ok (.aload_n 0, 1) := by decide +kernel
theorem dJx4a65c_grow_92f84_46 : decode cJx4a65c_grow_92f84 46 = .ok (.bipush 10, 2) := by decide +kernel
theorem dJx4a65c_grow_92f84_48 : decode cJx4a65c_grow_92f84 48 = .ok (.iload_n 1, 1) := by decide +kernel
theorem dJx4a65c_grow_92f84_49 : decode cJx4a65c_grow_92f84 49 = .ok (.invokestatic 79, 3) := by decide +kernel
theorem dJx4a65c_grow_92f84_52 : decode cJx4a65c_grow_92f84 52 = .ok (.anewarray 7, 3) := by decide +kernel
theorem dJx4a65c_grow_92f84_55 : decode cJx4a65c_grow_92f84 55 = .ok (.dup_x1, 1) := by decide +kernel
theorem dJx4a65c_grow_92f84_56 : decode cJx4a65c_grow_92f84 56 = .ok (.putfield 9, 3) := by decide +kernel
theorem dJx4a65c_grow_92f84_59 : decode cJx4a65c_grow_92f84 59 = .ok (.areturn, 1) := by decide +kernel
theorem dJx4a65c_grow_d5877_0 : decode cJx4a65c_grow_d5877 0 = .ok (.aload_n 0, 1) := by decide +kernel
theorem dJx4a65c_grow_d5877_1 : decode cJx4a65c_grow_d5877 1 = .ok (.aload_n 0, 1) := by decide +kernel
theorem dJx4a65c_grow_d5877_2 : decode cJx4a65c_grow_d5877 2 = .ok (.getfield 48, 3) := by decide +kernel
theorem dJx4a65c_grow_d5877_5 : decode cJx4a65c_grow_d5877 5 = .ok (.iconst 1, 1) := by decide +kernel
theorem dJx4a65c_grow_d5877_6 : decode cJx4a65c_grow_d5877 6 = .ok (.iadd, 1) := by decide +kernel
theorem dJx4a65c_grow_d5877_7 : decode cJx4a65c_grow_d5877 7 = .ok (.invokevirtual 69, 3) := by decide +kernel
theorem dJx4a65c_grow_d5877_10 : decode cJx4a65c_grow_d5877 10 = .ok (.areturn, 1) := by decide +kernel
theorem dJx4a65c_size_8abf5_0 : decode cJx4a65c_size_8abf5 0 = .ok (.aload_n 0, 1) := by decide +kernel
theorem dJx4a65c_size_8abf5_1 : decode cJx4a65c_size_8abf5 1 = .ok (.getfield 48, 3) := by decide +kernel
theorem dJx4a65c_size_8abf5_4 : decode cJx4a65c_size_8abf5 4 = .ok (.ireturn, 1) := by decide +kernel
theorem dJx4a65c_isEmpty_aae02_0 : decode cJx4a65c_isEmpty_aae02 0 = .ok (.aload_n 0, 1) := by decide +kernel
theorem dJx4a65c_isEmpty_aae02_1 : decode cJx4a65c_isEmpty_aae02 1 = .ok (.getfield 48, 3) := by decide +kernel
theorem dJx4a65c_isEmpty_aae02_4 : decode cJx4a65c_isEmpty_aae02 4 = .ok (.ifCond .ne 7, 3) := by decide +kernel
theorem dJx4a65c_isEmpty_aae02_7 : decode cJx4a65c_isEmpty_aae02 7 = .ok (.iconst 1, 1) := by decide +kernel
theorem dJx4a65c_isEmpty_aae02_8 : decode cJx4a65c_isEmpty_aae02 8 = .ok (.goto 4, 3) := by decide +kernel
theorem dJx4a65c_isEmpty_aae02_11 : decode cJx4a65c_isEmpty_aae02 11 = .ok (.iconst 0, 1) := by decide +kernel
theorem dJx4a65c_isEmpty_aae02_12 : decode cJx4a65c_isEmpty_aae02 12 = .ok (.ireturn, 1) := by decide +kernel
theorem dJx4a65c_elementData_915e3_0 : decode cJx4a65c_elementData_915e3 0 = .ok (.aload_n 0, 1) := by decide +kernel
theorem dJx4a65c_elementData_915e3_1 : decode cJx4a65c_elementData_915e3 1 = .ok (.getfield 9, 3) := by decide +kernel
theorem dJx4a65c_elementData_915e3_4 : decode cJx4a65c_elementData_915e3 4 = .ok (.iload_n 1, 1) := by decide +kernel
theorem dJx4a65c_elementData_915e3_5 : decode cJx4a65c_elementData_915e3 5 = .ok (.aaload, 1) := by decide +kernel
theorem dJx4a65c_elementData_915e3_6 : decode cJx4a65c_elementData_915e3 6 = .ok (.areturn, 1) := by decide +kernel
theorem dJx4a65c_get_915e3_0 : decode cJx4a65c_get_915e3 0 = .ok (.iload_n 1, 1) := by decide +kernel
theorem dJx4a65c_get_915e3_1 : decode cJx4a65c_get_915e3 1 = .ok (.aload_n 0, 1) := by decide +kernel
theorem dJx4a65c_get_915e3_2 : decode cJx4a65c_get_915e3 2 = .ok (.getfield 48, 3) := by decide +kernel
theorem dJx4a65c_get_915e3_5 : decode cJx4a65c_get_915e3 5 = .ok (.invokestatic 118, 3) := by decide +kernel
theorem dJx4a65c_get_915e3_8 : decode cJx4a65c_get_915e3 8 = .ok (.pop, 1) := by decide +kernel
theorem dJx4a65c_get_915e3_9 : decode cJx4a65c_get_915e3 9 = .ok (.aload_n 0, 1) := by decide +kernel
theorem dJx4a65c_get_915e3_10 : decode cJx4a65c_get_915e3 10 = .ok (.iload_n 1, 1) := by decide +kernel
theorem dJx4a65c_get_915e3_11 : decode cJx4a65c_get_915e3 11 = .ok (.invokevirtual 123, 3) := by decide +kernel
theorem dJx4a65c_get_915e3_14 : decode cJx4a65c_get_915e3 14 = .ok (.areturn, 1) := by decide +kernel
theorem dJx4a65c_add_72be8_0 : decode cJx4a65c_add_72be8 0 = .ok (.iload_n 3, 1) := by decide +kernel
theorem dJx4a65c_add_72be8_1 : decode cJx4a65c_add_72be8 1 = .ok (.aload_n 2, 1) := by decide +kernel
theorem dJx4a65c_add_72be8_2 : decode cJx4a65c_add_72be8 2 = .ok (.arraylength, 1) := by decide +kernel
theorem dJx4a65c_add_72be8_3 : decode cJx4a65c_add_72be8 3 = .ok (.if_icmp .ne 8, 3) := by decide +kernel
theorem dJx4a65c_add_72be8_6 : decode cJx4a65c_add_72be8 6 = .ok (.aload_n 0, 1) := by decide +kernel
theorem dJx4a65c_add_72be8_7 : decode cJx4a65c_add_72be8 7 = .ok (.invokevirtual 129, 3) := by decide +kernel
theorem dJx4a65c_add_72be8_10 : decode cJx4a65c_add_72be8 10 = .ok (.astore_n 2, 1) := by decide +kernel
theorem dJx4a65c_add_72be8_11 : decode cJx4a65c_add_72be8 11 = .ok (.aload_n 2, 1) := by decide +kernel
theorem dJx4a65c_add_72be8_12 : decode cJx4a65c_add_72be8 12 = .ok (.iload_n 3, 1) := by decide +kernel
theorem dJx4a65c_add_72be8_13 : decode cJx4a65c_add_72be8 13 = .ok (.aload_n 1, 1) := by decide +kernel
theorem dJx4a65c_add_72be8_14 : decode cJx4a65c_add_72be8 14 = .ok (.aastore, 1) := by decide +kernel
theorem dJx4a65c_add_72be8_15 : decode cJx4a65c_add_72be8 15 = .ok (.aload_n 0, 1) := by decide +kernel
theorem dJx4a65c_add_72be8_16 : decode cJx4a65c_add_72be8 16 = .ok (.iload_n 3, 1) := by decide +kernel
theorem dJx4a65c_add_72be8_17 : decode cJx4a65c_add_72be8 17 = .ok (.iconst 1, 1) := by decide +kernel
theorem dJx4a65c_add_72be8_18 : decode cJx4a65c_add_72be8 18 = .ok (.iadd, 1) := by decide +kernel
theorem dJx4a65c_add_72be8_19 : decode cJx4a65c_add_72be8 19 = .ok (.putfield 48, 3) := by decide +kernel
theorem dJx4a65c_add_72be8_22 : decode cJx4a65c_add_72be8 22 = .ok (.return_, 1) := by decide +kernel
theorem dJx4a65c_add_9ea2d_0 : decode cJx4a65c_add_9ea2d 0 = .ok (.aload_n 0, 1) := by decide +kernel
theorem dJx4a65c_add_9ea2d_1 : decode cJx4a65c_add_9ea2d 1 = .ok (.dup, 1) := by decide +kernel
theorem dJx4a65c_add_9ea2d_2 : decode cJx4a65c_add_9ea2d 2 = .ok (.getfield 63, 3) := by decide +kernel
theorem dJx4a65c_add_9ea2d_5 : decode cJx4a65c_add_9ea2d 5 = .ok (.iconst 1, 1) := by decide +kernel
theorem dJx4a65c_add_9ea2d_6 : decode cJx4a65c_add_9ea2d 6 = .ok (.iadd, 1) := by decide +kernel
theorem dJx4a65c_add_9ea2d_7 : decode cJx4a65c_add_9ea2d 7 = .ok (.putfield 63, 3) := by decide +kernel
theorem dJx4a65c_add_9ea2d_10 : decode cJx4a65c_add_9ea2d 10 = .ok (.aload_n 0, 1) := by decide +kernel
theorem dJx4a65c_add_9ea2d_11 : decode cJx4a65c_add_9ea2d 11 = .ok (.aload_n 1, 1) := by decide +kernel
theorem dJx4a65c_add_9ea2d_12 : decode cJx4a65c_add_9ea2d 12 = .ok (.aload_n 0, 1) := by decide +kernel
theorem dJx4a65c_add_9ea2d_13 : decode cJx4a65c_add_9ea2d 13 = .ok (.getfield 9, 3) := by decide +kernel
theorem dJx4a65c_add_9ea2d_16 : decode cJx4a65c_add_9ea2d 16 = .ok (.aload_n 0, 1) := by decide +kernel
theorem dJx4a65c_add_9ea2d_17 : decode cJx4a65c_add_9ea2d 17 = .ok (.getfield 48, 3) := by decide +kernel
theorem dJx4a65c_add_9ea2d_20 : decode cJx4a65c_add_9ea2d 20 = .ok (.invokevirtual 131, 3) := by decide +kernel
theorem dJx4a65c_add_9ea2d_23 : decode cJx4a65c_add_9ea2d 23 = .ok (.iconst 1, 1) := by decide +kernel
theorem dJx4a65c_add_9ea2d_24 : decode cJx4a65c_add_9ea2d 24 = .ok (.ireturn, 1) := by decide +kernel
theorem dJx4a65c_remove_915e3_0 : decode cJx4a65c_remove_915e3 0 = .ok (.iload_n 1, 1) := by decide +kernel
theorem dJx4a65c_remove_915e3_1 : decode cJx4a65c_remove_915e3 1 = .ok (.aload_n 0, 1) := by decide +kernel
theorem dJx4a65c_remove_915e3_2 : decode cJx4a65c_remove_915e3 2 = .ok (.getfield 48, 3) := by decide +kernel
theorem dJx4a65c_remove_915e3_5 : decode cJx4a65c_remove_915e3 5 = .ok (.invokestatic 118, 3) := by decide +kernel
theorem dJx4a65c_remove_915e3_8 : decode cJx4a65c_remove_915e3 8 = .ok (.pop, 1) := by decide +kernel
theorem dJx4a65c_remove_915e3_9 : decode cJx4a65c_remove_915e3 9 = .ok (.aload_n 0, 1) := by decide +kernel
theorem dJx4a65c_remove_915e3_10 : decode cJx4a65c_remove_915e3 10 = .ok (.getfield 9, 3) := by decide +kernel
theorem dJx4a65c_remove_915e3_13 : decode cJx4a65c_remove_915e3 13 = .ok (.astore_n 2, 1) := by decide +kernel
theorem dJx4a65c_remove_915e3_14 : decode cJx4a65c_remove_915e3 14 = .ok (.aload_n 2, 1) := by decide +kernel
theorem dJx4a65c_remove_915e3_15 : decode cJx4a65c_remove_915e3 15 = .ok (.iload_n 1, 1) := by decide +kernel
theorem dJx4a65c_remove_915e3_16 : decode cJx4a65c_remove_915e3 16 = .ok (.aaload, 1) := by decide +kernel
theorem dJx4a65c_remove_915e3_17 : decode cJx4a65c_remove_915e3 17 = .ok (.astore_n 3, 1) := by decide +kernel
theorem dJx4a65c_remove_915e3_18 : decode cJx4a65c_remove_915e3 18 = .ok (.aload_n 0, 1) := by decide +kernel
theorem dJx4a65c_remove_915e3_19 : decode cJx4a65c_remove_915e3 19 = .ok (.aload_n 2, 1) := by decide +kernel
theorem dJx4a65c_remove_915e3_20 : decode cJx4a65c_remove_915e3 20 = .ok (.iload_n 1, 1) := by decide +kernel
theorem dJx4a65c_remove_915e3_21 : decode cJx4a65c_remove_915e3 21 = .ok (.invokevirtual 144, 3) := by decide +kernel
theorem dJx4a65c_remove_915e3_24 : decode cJx4a65c_remove_915e3 24 = .ok (.aload_n 3, 1) := by decide +kernel
theorem dJx4a65c_remove_915e3_25 : decode cJx4a65c_remove_915e3 25 = .ok (.areturn, 1) := by decide +kernel
theorem dJx4a65c_fastRemove_b59b0_0 : decode cJx4a65c_fastRemove_b59b0 0 = .ok (.aload_n 0, 1) := by decide +kernel
theorem dJx4a65c_fastRemove_b59b0_1 : decode cJx4a65c_fastRemove_b59b0 1 = .ok (.dup, 1) := by decide +kernel
theorem dJx4a65c_fastRemove_b59b0_2 : decode cJx4a65c_fastRemove_b59b0 2 = .ok (.getfield 63, 3) := by decide +kernel
theorem dJx4a65c_fastRemove_b59b0_5 : decode cJx4a65c_fastRemove_b59b0 5 = .ok (.iconst 1, 1) := by decide +kernel
theorem dJx4a65c_fastRemove_b59b0_6 : decode cJx4a65c_fastRemove_b59b0 6 = .ok (.iadd, 1) := by decide +kernel
theorem dJx4a65c_fastRemove_b59b0_7 : decode cJx4a65c_fastRemove_b59b0 7 = .ok (.putfield 63, 3) := by decide +kernel
theorem dJx4a65c_fastRemove_b59b0_10 : decode cJx4a65c_fastRemove_b59b0 10 = .ok (.aload_n 0, 1) := by decide +kernel
theorem dJx4a65c_fastRemove_b59b0_11 : decode cJx4a65c_fastRemove_b59b0 11 = .ok (.getfield 48, 3) := by decide +kernel
theorem dJx4a65c_fastRemove_b59b0_14 : decode cJx4a65c_fastRemove_b59b0 14 = .ok (.iconst 1, 1) := by decide +kernel
theorem dJx4a65c_fastRemove_b59b0_15 : decode cJx4a65c_fastRemove_b59b0 15 = .ok (.isub, 1) := by decide +kernel
theorem dJx4a65c_fastRemove_b59b0_16 : decode cJx4a65c_fastRemove_b59b0 16 = .ok (.dup, 1) := by decide +kernel
theorem dJx4a65c_fastRemove_b59b0_17 : decode cJx4a65c_fastRemove_b59b0 17 = .ok (.istore_n 3, 1) := by decide +kernel
theorem dJx4a65c_fastRemove_b59b0_18 : decode cJx4a65c_fastRemove_b59b0 18 = .ok (.iload_n 2, 1) := by decide +kernel
theorem dJx4a65c_fastRemove_b59b0_19 : decode cJx4a65c_fastRemove_b59b0 19 = .ok (.if_icmp .le 15, 3) := by decide +kernel
theorem dJx4a65c_fastRemove_b59b0_22 : decode cJx4a65c_fastRemove_b59b0 22 = .ok (.aload_n 1, 1) := by decide +kernel
theorem dJx4a65c_fastRemove_b59b0_23 : decode cJx4a65c_fastRemove_b59b0 23 = .ok (.iload_n 2, 1) := by decide +kernel
theorem dJx4a65c_fastRemove_b59b0_24 : decode cJx4a65c_fastRemove_b59b0 24 = .ok (.iconst 1, 1) := by decide +kernel
theorem dJx4a65c_fastRemove_b59b0_25 : decode cJx4a65c_fastRemove_b59b0 25 = .ok (.iadd, 1) := by decide +kernel
theorem dJx4a65c_fastRemove_b59b0_26 : decode cJx4a65c_fastRemove_b59b0 26 = .ok (.aload_n 1, 1) := by decide +kernel
theorem dJx4a65c_fastRemove_b59b0_27 : decode cJx4a65c_fastRemove_b59b0 27 = .ok (.iload_n 2, 1) := by decide +kernel
theorem dJx4a65c_fastRemove_b59b0_28 : decode cJx4a65c_fastRemove_b59b0 28 = .ok (.iload_n 3, 1) := by decide +kernel
theorem dJx4a65c_fastRemove_b59b0_29 : decode cJx4a65c_fastRemove_b59b0 29 = .ok (.iload_n 2, 1) := by decide +kernel
theorem dJx4a65c_fastRemove_b59b0_30 : decode cJx4a65c_fastRemove_b59b0 30 = .ok (.isub, 1) := by decide +kernel
theorem dJx4a65c_fastRemove_b59b0_31 : decode cJx4a65c_fastRemove_b59b0 31 = .ok (.invokestatic 112, 3) := by decide +kernel
theorem dJx4a65c_fastRemove_b59b0_34 : decode cJx4a65c_fastRemove_b59b0 34 = .ok (.aload_n 1, 1) := by decide +kernel
theorem dJx4a65c_fastRemove_b59b0_35 : decode cJx4a65c_fastRemove_b59b0 35 = .ok (.aload_n 0, 1) := by decide +kernel
theorem dJx4a65c_fastRemove_b59b0_36 : decode cJx4a65c_fastRemove_b59b0 36 = .ok (.iload_n 3, 1) := by decide +kernel
theorem dJx4a65c_fastRemove_b59b0_37 : decode cJx4a65c_fastRemove_b59b0 37 = .ok (.dup_x1, 1) := by decide +kernel
theorem dJx4a65c_fastRemove_b59b0_38 : decode cJx4a65c_fastRemove_b59b0 38 = .ok (.putfield 48, 3) := by decide +kernel
theorem dJx4a65c_fastRemove_b59b0_41 : decode cJx4a65c_fastRemove_b59b0 41 = .ok (.aconst_null, 1) := by decide +kernel
theorem dJx4a65c_fastRemove_b59b0_42 : decode cJx4a65c_fastRemove_b59b0 42 = .ok (.aastore, 1) := by decide +kernel
theorem dJx4a65c_fastRemove_b59b0_43 : decode cJx4a65c_fastRemove_b59b0 43 = .ok (.return_, 1) := by decide +kernel
theorem dJx4a65c_clear_da8c8_0 : decode cJx4a65c_clear_da8c8 0 = .ok (.aload_n 0, 1) := by decide +kernel
theorem dJx4a65c_clear_da8c8_1 : decode cJx4a65c_clear_da8c8 1 = .ok (.dup, 1) := by decide +kernel
theorem dJx4a65c_clear_da8c8_2 : decode cJx4a65c_clear_da8c8 2 = .ok (.getfield 63, 3) := by decide +kernel
theorem dJx4a65c_clear_da8c8_5 : decode cJx4a65c_clear_da8c8 5 = .ok (.iconst 1, 1) := by decide +kernel
theorem dJx4a65c_clear_da8c8_6 : decode cJx4a65c_clear_da8c8 6 = .ok (.iadd, 1) := by decide +kernel
theorem dJx4a65c_clear_da8c8_7 : decode cJx4a65c_clear_da8c8 7 = .ok (.putfield 63, 3) := by decide +kernel
theorem dJx4a65c_clear_da8c8_10 : decode cJx4a65c_clear_da8c8 10 = .ok (.aload_n 0, 1) := by decide +kernel
theorem dJx4a65c_clear_da8c8_11 : decode cJx4a65c_clear_da8c8 11 = .ok (.getfield 9, 3) := by decide +kernel
theorem dJx4a65c_clear_da8c8_14 : decode cJx4a65c_clear_da8c8 14 = .ok (.astore_n 1, 1) := by decide +kernel
theorem dJx4a65c_clear_da8c8_15 : decode cJx4a65c_clear_da8c8 15 = .ok (.aload_n 0, 1) := by decide +kernel
theorem dJx4a65c_clear_da8c8_16 : decode cJx4a65c_clear_da8c8 16 = .ok (.getfield 48, 3) := by decide +kernel
theorem dJx4a65c_clear_da8c8_19 : decode cJx4a65c_clear_da8c8 19 = .ok (.istore_n 2, 1) := by decide +kernel
theorem dJx4a65c_clear_da8c8_20 : decode cJx4a65c_clear_da8c8 20 = .ok (.aload_n 0, 1) := by decide +kernel
theorem dJx4a65c_clear_da8c8_21 : decode cJx4a65c_clear_da8c8 21 = .ok (.iconst 0, 1) := by decide +kernel
theorem dJx4a65c_clear_da8c8_22 : decode cJx4a65c_clear_da8c8 22 = .ok (.dup_x1, 1) := by decide +kernel
theorem dJx4a65c_clear_da8c8_23 : decode cJx4a65c_clear_da8c8 23 = .ok (.putfield 48, 3) := by decide +kernel
theorem dJx4a65c_clear_da8c8_26 : decode cJx4a65c_clear_da8c8 26 = .ok (.istore_n 3, 1) := by decide +kernel
theorem dJx4a65c_clear_da8c8_27 : decode cJx4a65c_clear_da8c8 27 = .ok (.iload_n 3, 1) := by decide +kernel
theorem dJx4a65c_clear_da8c8_28 : decode cJx4a65c_clear_da8c8 28 = .ok (.iload_n 2, 1) := by decide +kernel
theorem dJx4a65c_clear_da8c8_29 : decode cJx4a65c_clear_da8c8 29 = .ok (.if_icmp .ge 13, 3) := by decide +kernel
theorem dJx4a65c_clear_da8c8_32 : decode cJx4a65c_clear_da8c8 32 = .ok (.aload_n 1, 1) := by decide +kernel
theorem dJx4a65c_clear_da8c8_33 : decode cJx4a65c_clear_da8c8 33 = .ok (.iload_n 3, 1) := by decide +kernel
theorem dJx4a65c_clear_da8c8_34 : decode cJx4a65c_clear_da8c8 34 = .ok (.aconst_null, 1) := by decide +kernel
theorem dJx4a65c_clear_da8c8_35 : decode cJx4a65c_clear_da8c8 35 = .ok (.aastore, 1) := by decide +kernel
theorem dJx4a65c_clear_da8c8_36 : decode cJx4a65c_clear_da8c8 36 = .ok (.iinc 3 1, 3) := by decide +kernel
theorem dJx4a65c_clear_da8c8_39 : decode cJx4a65c_clear_da8c8 39 = .ok (.goto (-12), 3) := by decide +kernel
theorem dJx4a65c_clear_da8c8_42 : decode cJx4a65c_clear_da8c8 42 = .ok (.return_, 1) := by decide +kernel
theorem dJ7_copyOf_1904c_0 : decode cJ7_copyOf_1904c 0 = .ok (.aload_n 0, 1) := by decide +kernel
theorem dJ7_copyOf_1904c_1 : decode cJ7_copyOf_1904c 1 = .ok (.iload_n 1, 1) := by decide +kernel
theorem dJ7_copyOf_1904c_2 : decode cJ7_copyOf_1904c 2 = .ok (.aload_n 0, 1) := by decide +kernel
theorem dJ7_copyOf_1904c_3 : decode cJ7_copyOf_1904c 3 = .ok (.invokevirtual 86, 3) := by decide +kernel
theorem dJ7_copyOf_1904c_6 : decode cJ7_copyOf_1904c 6 = .ok (.invokestatic 300, 3) := by decide +kernel
theorem dJ7_copyOf_1904c_9 : decode cJ7_copyOf_1904c 9 = .ok (.areturn, 1) := by decide +kernel
theorem dJ7_copyOf_6403c_0 : decode cJ7_copyOf_6403c 0 = .ok (.aload_n 2, 1) := by decide +kernel
theorem dJ7_copyOf_6403c_1 : decode cJ7_copyOf_6403c 1 = .ok (.ldc 110, 2) := by decide +kernel
theorem dJ7_copyOf_6403c_3 : decode cJ7_copyOf_6403c 3 = .ok (.if_acmp .ne 10, 3) := by decide +kernel
theorem dJ7_copyOf_6403c_6 : decode cJ7_copyOf_6403c 6 = .ok (.iload_n 1, 1) := by decide +kernel
theorem dJ7_copyOf_6403c_7 : decode cJ7_copyOf_6403c 7 = .ok (.anewarray 2, 3) := by decide +kernel
theorem dJ7_copyOf_6403c_10 : decode cJ7_copyOf_6403c 10 = .ok (.goto 14, 3) := by decide +kernel
theorem dJ7_copyOf_6403c_13 : decode cJ7_copyOf_6403c 13 = .ok (.aload_n 2, 1) := by decide +kernel
theorem dJ7_copyOf_6403c_14 : decode cJ7_copyOf_6403c 14 = .ok (.invokevirtual 90, 3) := by decide +kernel
theorem dJ7_copyOf_6403c_17 : decode cJ7_copyOf_6403c 17 = .ok (.iload_n 1, 1) := by decide +kernel
theorem dJ7_copyOf_6403c_18 : decode cJ7_copyOf_6403c 18 = .ok (.invokestatic 95, 3) := by decide +kernel
theorem dJ7_copyOf_6403c_21 : decode cJ7_copyOf_6403c 21 = .ok (.checkcast 110, 3) := by decide +kernel
theorem dJ7_copyOf_6403c_24 : decode cJ7_copyOf_6403c 24 = .ok (.astore_n 3, 1) := by decide +kernel
theorem dJ7_copyOf_6403c_25 : decode cJ7_copyOf_6403c 25 = .ok (.aload_n 0, 1) := by decide +kernel
theorem dJ7_copyOf_6403c_26 : decode cJ7_copyOf_6403c 26 = .ok (.iconst 0, 1) := by decide +kernel
theorem dJ7_copyOf_6403c_27 : decode cJ7_copyOf_6403c 27 = .ok (.aload_n 3, 1) := by decide +kernel
theorem dJ7_copyOf_6403c_28 : decode cJ7_copyOf_6403c 28 = .ok (.iconst 0, 1) := by decide +kernel
theorem dJ7_copyOf_6403c_29 : decode cJ7_copyOf_6403c 29 = .ok (.aload_n 0, 1) := by decide +kernel
theorem dJ7_copyOf_6403c_30 : decode cJ7_copyOf_6403c 30 = .ok (.arraylength, 1) := by decide +kernel
theorem dJ7_copyOf_6403c_31 : decode cJ7_copyOf_6403c 31 = .ok (.iload_n 1, 1) := by decide +kernel
theorem dJ7_copyOf_6403c_32 : decode cJ7_copyOf_6403c 32 = .ok (.invokestatic 304, 3) := by decide +kernel
theorem dJ7_copyOf_6403c_35 : decode cJ7_copyOf_6403c 35 = .ok (.invokestatic 150, 3) := by decide +kernel
theorem dJ7_copyOf_6403c_38 : decode cJ7_copyOf_6403c 38 = .ok (.aload_n 3, 1) := by decide +kernel
theorem dJ7_copyOf_6403c_39 : decode cJ7_copyOf_6403c 39 = .ok (.areturn, 1) := by decide +kernel
theorem dJ15_checkIndex_7cf53_0 : decode cJ15_checkIndex_7cf53 0 = .ok (.iload_n 0, 1) := by decide +kernel
theorem dJ15_checkIndex_7cf53_1 : decode cJ15_checkIndex_7cf53 1 = .ok (.iload_n 1, 1) := by decide +kernel
theorem dJ15_checkIndex_7cf53_2 : decode cJ15_checkIndex_7cf53 2 = .ok (.aconst_null, 1) := by decide +kernel
theorem dJ15_checkIndex_7cf53_3 : decode cJ15_checkIndex_7cf53 3 = .ok (.invokestatic 105, 3) := by decide +kernel
theorem dJ15_checkIndex_7cf53_6 : decode cJ15_checkIndex_7cf53 6 = .ok (.ireturn, 1) := by decide +kernel
theorem dJ8_newLength_cabcc_0 : decode cJ8_newLength_cabcc 0 = .ok (.iload_n 0, 1) := by decide +kernel
theorem dJ8_newLength_cabcc_1 : decode cJ8_newLength_cabcc 1 = .ok (.iload_n 1, 1) := by decide +kernel
theorem dJ8_newLength_cabcc_2 : decode cJ8_newLength_cabcc 2 = .ok (.iload_n 2, 1) := by decide +kernel
theorem dJ8_newLength_cabcc_3 : decode cJ8_newLength_cabcc 3 = .ok (.invokestatic 194, 3) := by decide +kernel
theorem dJ8_newLength_cabcc_6 : decode cJ8_newLength_cabcc 6 = .ok (.iadd, 1) := by decide +kernel
theorem dJ8_newLength_cabcc_7 : decode cJ8_newLength_cabcc 7 = .ok (.istore_n 3, 1) := by decide +kernel
theorem dJ8_newLength_cabcc_8 : decode cJ8_newLength_cabcc 8 = .ok (.iconst 0, 1) := by decide +kernel
theorem dJ8_newLength_cabcc_9 : decode cJ8_newLength_cabcc 9 = .ok (.iload_n 3, 1) := by decide +kernel
theorem dJ8_newLength_cabcc_10 : decode cJ8_newLength_cabcc 10 = .ok (.if_icmp .ge 11, 3) := by decide +kernel
theorem dJ8_newLength_cabcc_13 : decode cJ8_newLength_cabcc 13 = .ok (.iload_n 3, 1) := by decide +kernel
theorem dJ8_newLength_cabcc_14 : decode cJ8_newLength_cabcc 14 = .ok (.ldc 200, 2) := by decide +kernel
theorem dJ8_newLength_cabcc_16 : decode cJ8_newLength_cabcc 16 = .ok (.if_icmp .gt 5, 3) := by decide +kernel
theorem dJ8_newLength_cabcc_19 : decode cJ8_newLength_cabcc 19 = .ok (.iload_n 3, 1) := by decide +kernel
theorem dJ8_newLength_cabcc_20 : decode cJ8_newLength_cabcc 20 = .ok (.ireturn, 1) := by decide +kernel
theorem dJ8_newLength_cabcc_21 : decode cJ8_newLength_cabcc 21 = .ok (.iload_n 0, 1) := by decide +kernel
theorem dJ8_newLength_cabcc_22 : decode cJ8_newLength_cabcc 22 = .ok (.iload_n 1, 1) := by decide +kernel
theorem dJ8_newLength_cabcc_23 : decode cJ8_newLength_cabcc 23 = .ok (.invokestatic 201, 3) := by decide +kernel
theorem dJ8_newLength_cabcc_26 : decode cJ8_newLength_cabcc 26 = .ok (.ireturn, 1) := by decide +kernel
theorem dJ3_checkIndex_8e157_0 : decode cJ3_checkIndex_8e157 0 = .ok (.iload_n 0, 1) := by decide +kernel
theorem dJ3_checkIndex_8e157_1 : decode cJ3_checkIndex_8e157 1 = .ok (.ifCond .lt 8, 3) := by decide +kernel
theorem dJ3_checkIndex_8e157_4 : decode cJ3_checkIndex_8e157 4 = .ok (.iload_n 0, 1) := by decide +kernel
theorem dJ3_checkIndex_8e157_5 : decode cJ3_checkIndex_8e157 5 = .ok (.iload_n 1, 1) := by decide +kernel
theorem dJ3_checkIndex_8e157_6 : decode cJ3_checkIndex_8e157 6 = .ok (.if_icmp .lt 10, 3) := by decide +kernel
theorem dJ3_checkIndex_8e157_9 : decode cJ3_checkIndex_8e157 9 = .ok (.aload_n 2, 1) := by decide +kernel
theorem dJ3_checkIndex_8e157_10 : decode cJ3_checkIndex_8e157 10 = .ok (.iload_n 0, 1) := by decide +kernel
theorem dJ3_checkIndex_8e157_11 : decode cJ3_checkIndex_8e157 11 = .ok (.iload_n 1, 1) := by decide +kernel
theorem dJ3_checkIndex_8e157_12 : decode cJ3_checkIndex_8e157 12 = .ok (.invokestatic 95, 3) := by decide +kernel
theorem dJ3_checkIndex_8e157_15 : decode cJ3_checkIndex_8e157 15 = .ok (.athrow, 1) := by decide +kernel
theorem dJ3_checkIndex_8e157_16 : decode cJ3_checkIndex_8e157 16 = .ok (.iload_n 0, 1) := by decide +kernel
theorem dJ3_checkIndex_8e157_17 : decode cJ3_checkIndex_8e157 17 = .ok (.ireturn, 1) := by decide +kernel
theorem dL_cell_0 : decode cL_cell 0 = .ok (.iload_n 1, 1) := by decide +kernel
theorem dL_cell_1 : decode cL_cell 1 = .ok (.aload_n 0, 1) := by decide +kernel
theorem dL_cell_2 : decode cL_cell 2 = .ok (.arraylength, 1) := by decide +kernel
theorem dL_cell_3 : decode cL_cell 3 = .ok (.if_icmp .ge 9, 3) := by decide +kernel
theorem dL_cell_6 : decode cL_cell 6 = .ok (.aload_n 0, 1) := by decide +kernel
theorem dL_cell_7 : decode cL_cell 7 = .ok (.iload_n 1, 1) := by decide +kernel
theorem dL_cell_8 : decode cL_cell 8 = .ok (.iaload, 1) := by decide +kernel
theorem dL_cell_9 : decode cL_cell 9 = .ok (.goto 15, 3) := by decide +kernel
theorem dL_cell_12 : decode cL_cell 12 = .ok (.sipush 7919, 3) := by decide +kernel
theorem dL_cell_15 : decode cL_cell 15 = .ok (.iload_n 1, 1) := by decide +kernel
theorem dL_cell_16 : decode cL_cell 16 = .ok (.iconst 3, 1) := by decide +kernel
theorem dL_cell_17 : decode cL_cell 17 = .ok (.iadd, 1) := by decide +kernel
theorem dL_cell_18 : decode cL_cell 18 = .ok (.imul, 1) := by decide +kernel
theorem dL_cell_19 : decode cL_cell 19 = .ok (.iload_n 1, 1) := by decide +kernel
theorem dL_cell_20 : decode cL_cell 20 = .ok (.bipush 11, 2) := by decide +kernel
theorem dL_cell_22 : decode cL_cell 22 = .ok (.iadd, 1) := by decide +kernel
theorem dL_cell_23 : decode cL_cell 23 = .ok (.imul, 1) := by decide +kernel
theorem dL_cell_24 : decode cL_cell 24 = .ok (.ireturn, 1) := by decide +kernel
theorem dL_low_0 : decode cL_low 0 = .ok (.iload_n 0, 1) := by decide +kernel
theorem dL_low_1 : decode cL_low 1 = .ok (.ldc 7, 2) := by decide +kernel
theorem dL_low_3 : decode cL_low 3 = .ok (.iand, 1) := by decide +kernel
theorem dL_low_4 : decode cL_low 4 = .ok (.iload_n 1, 1) := by decide +kernel
theorem dL_low_5 : decode cL_low 5 = .ok (.irem, 1) := by decide +kernel
theorem dL_low_6 : decode cL_low 6 = .ok (.ireturn, 1) := by decide +kernel
theorem dL_build_0 : decode cL_build 0 = .ok (.iconst 1, 1) := by decide +kernel
theorem dL_build_1 : decode cL_build 1 = .ok (.istore_n 1, 1) := by decide +kernel
theorem dL_build_2 : decode cL_build 2 = .ok (.iconst 0, 1) := by decide +kernel
theorem dL_build_3 : decode cL_build 3 = .ok (.istore_n 2, 1) := by decide +kernel
theorem dL_build_4 : decode cL_build 4 = .ok (.iload_n 2, 1) := by decide +kernel
theorem dL_build_5 : decode cL_build 5 = .ok (.bipush 19, 2) := by decide +kernel
theorem dL_build_7 : decode cL_build 7 = .ok (.if_icmp .ge 72, 3) := by decide +kernel
theorem dL_build_10 : decode cL_build 10 = .ok (.iload_n 2, 1) := by decide +kernel
theorem dL_build_11 : decode cL_build 11 = .ok (.ifCond .ne 7, 3) := by decide +kernel
theorem dL_build_14 : decode cL_build 14 = .ok (.iconst 0, 1) := by decide +kernel
theorem dL_build_15 : decode cL_build 15 = .ok (.goto 33, 3) := by decide +kernel
theorem dL_build_18 : decode cL_build 18 = .ok (.iload_n 2, 1) := by decide +kernel
theorem dL_build_19 : decode cL_build 19 = .ok (.iconst 3, 1) := by decide +kernel
theorem dL_build_20 : decode cL_build 20 = .ok (.if_icmp .ge 7, 3) := by decide +kernel
theorem dL_build_23 : decode cL_build 23 = .ok (.iconst 1, 1) := by decide +kernel
theorem dL_build_24 : decode cL_build 24 = .ok (.goto 24, 3) := by decide +kernel
theorem dL_build_27 : decode cL_build 27 = .ok (.iload_n 2, 1) := by decide +kernel
theorem dL_build_28 : decode cL_build 28 = .ok (.bipush 7, 2) := by decide +kernel
theorem dL_build_30 : decode cL_build 30 = .ok (.if_icmp .ge 7, 3) := by decide +kernel
theorem dL_build_33 : decode cL_build 33 = .ok (.iconst 2, 1) := by decide +kernel
theorem dL_build_34 : decode cL_build 34 = .ok (.goto 14, 3) := by decide +kernel
theorem dL_build_37 : decode cL_build 37 = .ok (.iload_n 2, 1) := by decide +kernel
theorem dL_build_38 : decode cL_build 38 = .ok (.bipush 15, 2) := by decide +kernel
theorem dL_build_40 : decode cL_build 40 = .ok (.if_icmp .ge 7, 3) := by decide +kernel
theorem dL_build_43 : decode cL_build 43 = .ok (.iconst 3, 1) := by decide +kernel
theorem dL_build_44 : decode cL_build 44 = .ok (.goto 4, 3) := by decide +kernel
theorem dL_build_47 : decode cL_build 47 = .ok (.iconst 4, 1) := by decide +kernel
theorem dL_build_48 : decode cL_build 48 = .ok (.istore_n 3, 1) := by decide +kernel
theorem dL_build_49 : decode cL_build 49 = .ok (.iload_n 1, 1) := by decide +kernel
theorem dL_build_50 : decode cL_build 50 = .ok (.ifCond .eq 21, 3) := by decide +kernel
theorem dL_build_53 : decode cL_build 53 = .ok (.aload_n 0, 1) := by decide +kernel
theorem dL_build_54 : decode cL_build 54 = .ok (.iload_n 3, 1) := by decide +kernel
theorem dL_build_55 : decode cL_build 55 = .ok (.iload_n 2, 1) := by decide +kernel
theorem dL_build_56 : decode cL_build 56 = .ok (.bipush 10, 2) := by decide +kernel
theorem dL_build_58 : decode cL_build 58 = .ok (.irem, 1) := by decide +kernel
theorem dL_build_59 : decode cL_build 59 = .ok (.iconst 1, 1) := by decide +kernel
theorem dL_build_60 : decode cL_build 60 = .ok (.invokevirtual 8, 3) := by decide +kernel
theorem dL_build_63 : decode cL_build 63 = .ok (.iload_n 2, 1) := by decide +kernel
theorem dL_build_64 : decode cL_build 64 = .ok (.if_icmp .ne 7, 3) := by decide +kernel
theorem dL_build_67 : decode cL_build 67 = .ok (.iconst 1, 1) := by decide +kernel
theorem dL_build_68 : decode cL_build 68 = .ok (.goto 4, 3) := by decide +kernel
theorem dL_build_71 : decode cL_build 71 = .ok (.iconst 0, 1) := by decide +kernel
theorem dL_build_72 : decode cL_build 72 = .ok (.istore_n 1, 1) := by decide +kernel
theorem dL_build_73 : decode cL_build 73 = .ok (.iinc 2 1, 3) := by decide +kernel
theorem dL_build_76 : decode cL_build 76 = .ok (.goto (-72), 3) := by decide +kernel
theorem dL_build_79 : decode cL_build 79 = .ok (.bipush 18, 2) := by decide +kernel
theorem dL_build_81 : decode cL_build 81 = .ok (.istore_n 2, 1) := by decide +kernel
theorem dL_build_82 : decode cL_build 82 = .ok (.iload_n 2, 1) := by decide +kernel
theorem dL_build_83 : decode cL_build 83 = .ok (.ifCond .le 84, 3) := by decide +kernel
theorem dL_build_86 : decode cL_build 86 = .ok (.iload_n 1, 1) := by decide +kernel
theorem dL_build_87 : decode cL_build 87 = .ok (.ifCond .eq 80, 3) := by decide +kernel
theorem dL_build_90 : decode cL_build 90 = .ok (.iload_n 2, 1) := by decide +kernel
theorem dL_build_91 : decode cL_build 91 = .ok (.iconst 3, 1) := by decide +kernel
theorem dL_build_92 : decode cL_build 92 = .ok (.if_icmp .ge 7, 3) := by decide +kernel
theorem dL_build_95 : decode cL_build 95 = .ok (.iconst 0, 1) := by decide +kernel
theorem dL_build_96 : decode cL_build 96 = .ok (.goto 40, 3) := by decide +kernel
theorem dL_build_99 : decode cL_build 99 = .ok (.iload_n 2, 1) := by decide +kernel
theorem dL_build_100 : decode cL_build 100 = .ok (.bipush 7, 2) := by decide +kernel
theorem dL_build_102 : decode cL_build 102 = .ok (.if_icmp .ge 13, 3) := by decide +kernel
theorem dL_build_105 : decode cL_build 105 = .ok (.iconst 1, 1) := by decide +kernel
theorem dL_build_106 : decode cL_build 106 = .ok (.iload_n 2, 1) := by decide +kernel
theorem dL_build_107 : decode cL_build 107 = .ok (.iconst 3, 1) := by decide +kernel
theorem dL_build_108 : decode cL_build 108 = .ok (.isub, 1) := by decide +kernel
theorem dL_build_109 : decode cL_build 109 = .ok (.iconst 2, 1) := by decide +kernel
theorem dL_build_110 : decode cL_build 110 = .ok (.idiv, 1) := by decide +kernel
theorem dL_build_111 : decode cL_build 111 = .ok (.iadd, 1) := by decide +kernel
theorem dL_build_112 : decode cL_build 112 = .ok (.goto 24, 3) := by decide +kernel
theorem dL_build_115 : decode cL_build 115 = .ok (.iload_n 2, 1) := by decide +kernel
theorem dL_build_116 : decode cL_build 116 = .ok (.bipush 15, 2) := by decide +kernel
theorem dL_build_118 : decode cL_build 118 = .ok (.if_icmp .ge 14, 3) := by decide +kernel
theorem dL_build_121 : decode cL_build 121 = .ok (.iconst 3, 1) := by decide +kernel
theorem dL_build_122 : decode cL_build 122 = .ok (.iload_n 2, 1) := by decide +kernel
theorem dL_build_123 : decode cL_build 123 = .ok (.bipush 7, 2) := by decide +kernel
theorem dL_build_125 : decode cL_build 125 = .ok (.isub, 1) := by decide +kernel
theorem dL_build_126 : decode cL_build 126 = .ok (.iconst 2, 1) := by decide +kernel
theorem dL_build_127 : decode cL_build 127 = .ok (.idiv, 1) := by decide +kernel
theorem dL_build_128 : decode cL_build 128 = .ok (.iadd, 1) := by decide +kernel
theorem dL_build_129 : decode cL_build 129 = .ok (.goto 7, 3) := by decide +kernel
theorem dL_build_132 : decode cL_build 132 = .ok (.iload_n 2, 1) := by decide +kernel
theorem dL_build_133 : decode cL_build 133 = .ok (.bipush 12, 2) := by decide +kernel
theorem dL_build_135 : decode cL_build 135 = .ok (.isub, 1) := by decide +kernel
theorem dL_build_136 : decode cL_build 136 = .ok (.istore_n 3, 1) := by decide +kernel
theorem dL_build_137 : decode cL_build 137 = .ok (.aload_n 0, 1) := by decide +kernel
theorem dL_build_138 : decode cL_build 138 = .ok (.iload_n 2, 1) := by decide +kernel
theorem dL_build_139 : decode cL_build 139 = .ok (.iload_n 3, 1) := by decide +kernel
theorem dL_build_140 : decode cL_build 140 = .ok (.invokevirtual 14, 3) := by decide +kernel
theorem dL_build_143 : decode cL_build 143 = .ok (.ifCond .le 16, 3) := by decide +kernel
theorem dL_build_146 : decode cL_build 146 = .ok (.aload_n 0, 1) := by decide +kernel
theorem dL_build_147 : decode cL_build 147 = .ok (.iload_n 2, 1) := by decide +kernel
theorem dL_build_148 : decode cL_build 148 = .ok (.invokevirtual 18, 3) := by decide +kernel
theorem dL_build_151 : decode cL_build 151 = .ok (.iload_n 3, 1) := by decide +kernel
theorem dL_build_152 : decode cL_build 152 = .ok (.if_icmp .ne 7, 3) := by decide +kernel
theorem dL_build_155 : decode cL_build 155 = .ok (.iconst 1, 1) := by decide +kernel
theorem dL_build_156 : decode cL_build 156 = .ok (.goto 4, 3) := by decide +kernel
theorem dL_build_159 : decode cL_build 159 = .ok (.iconst 0, 1) := by decide +kernel
theorem dL_build_160 : decode cL_build 160 = .ok (.istore_n 1, 1) := by decide +kernel
theorem dL_build_161 : decode cL_build 161 = .ok (.iinc 2 (-1), 3) := by decide +kernel
theorem dL_build_164 : decode cL_build 164 = .ok (.goto (-82), 3) := by decide +kernel
theorem dL_build_167 : decode cL_build 167 = .ok (.iload_n 1, 1) := by decide +kernel
theorem dL_build_168 : decode cL_build 168 = .ok (.ireturn, 1) := by decide +kernel
theorem dL_inside_0 : decode cL_inside 0 = .ok (.iconst 0, 1) := by decide +kernel
theorem dL_inside_1 : decode cL_inside 1 = .ok (.istore_n 3, 1) := by decide +kernel
theorem dL_inside_2 : decode cL_inside 2 = .ok (.iconst 0, 1) := by decide +kernel
theorem dL_inside_3 : decode cL_inside 3 = .ok (.istore 4, 2) := by decide +kernel
theorem dL_inside_5 : decode cL_inside 5 = .ok (.iload 4, 2) := by decide +kernel
theorem dL_inside_7 : decode cL_inside 7 = .ok (.bipush 23, 2) := by decide +kernel
theorem dL_inside_9 : decode cL_inside 9 = .ok (.if_icmp .ge 38, 3) := by decide +kernel
theorem dL_inside_12 : decode cL_inside 12 = .ok (.iload_n 3, 1) := by decide +kernel
theorem dL_inside_13 : decode cL_inside 13 = .ok (.aload_n 0, 1) := by decide +kernel
theorem dL_inside_14 : decode cL_inside 14 = .ok (.iload 4, 2) := by decide +kernel
theorem dL_inside_16 : decode cL_inside 16 = .ok (.invokevirtual 18, 3) := by decide +kernel
theorem dL_inside_19 : decode cL_inside 19 = .ok (.iload_n 1, 1) := by decide +kernel
theorem dL_inside_20 : decode cL_inside 20 = .ok (.if_icmp .ne 18, 3) := by decide +kernel
theorem dL_inside_23 : decode cL_inside 23 = .ok (.aload_n 0, 1) := by decide +kernel
theorem dL_inside_24 : decode cL_inside 24 = .ok (.iload 4, 2) := by decide +kernel
theorem dL_inside_26 : decode cL_inside 26 = .ok (.iconst 0, 1) := by decide +kernel
theorem dL_inside_27 : decode cL_inside 27 = .ok (.invokevirtual 22, 3) := by decide +kernel
theorem dL_inside_30 : decode cL_inside 30 = .ok (.iload_n 2, 1) := by decide +kernel
theorem dL_inside_31 : decode cL_inside 31 = .ok (.if_icmp .ne 7, 3) := by decide +kernel
theorem dL_inside_34 : decode cL_inside 34 = .ok (.iconst 1, 1) := by decide +kernel
theorem dL_inside_35 : decode cL_inside 35 = .ok (.goto 4, 3) := by decide +kernel
theorem dL_inside_38 : decode cL_inside 38 = .ok (.iconst 0, 1) := by decide +kernel
theorem dL_inside_39 : decode cL_inside 39 = .ok (.iadd, 1) := by decide +kernel
theorem dL_inside_40 : decode cL_inside 40 = .ok (.istore_n 3, 1) := by decide +kernel
theorem dL_inside_41 : decode cL_inside 41 = .ok (.iinc 4 1, 3) := by decide +kernel
theorem dL_inside_44 : decode cL_inside 44 = .ok (.goto (-39), 3) := by decide +kernel
theorem dL_inside_47 : decode cL_inside 47 = .ok (.iload_n 3, 1) := by decide +kernel
theorem dL_inside_48 : decode cL_inside 48 = .ok (.ireturn, 1) := by decide +kernel
theorem dL_room_0 : decode cL_room 0 = .ok (.iload_n 0, 1) := by decide +kernel
theorem dL_room_1 : decode cL_room 1 = .ok (.iconst 2, 1) := by decide +kernel
theorem dL_room_2 : decode cL_room 2 = .ok (.if_icmp .ge 14, 3) := by decide +kernel
theorem dL_room_5 : decode cL_room 5 = .ok (.iload_n 1, 1) := by decide +kernel
theorem dL_room_6 : decode cL_room 6 = .ok (.iload_n 0, 1) := by decide +kernel
theorem dL_room_7 : decode cL_room 7 = .ok (.iconst 1, 1) := by decide +kernel
theorem dL_room_8 : decode cL_room 8 = .ok (.iadd, 1) := by decide +kernel
theorem dL_room_9 : decode cL_room 9 = .ok (.if_icmp .ne 7, 3) := by decide +kernel
theorem dL_room_12 : decode cL_room 12 = .ok (.iconst 2, 1) := by decide +kernel
theorem dL_room_13 : decode cL_room 13 = .ok (.goto 32, 3) := by decide +kernel
theorem dL_room_16 : decode cL_room 16 = .ok (.iload_n 0, 1) := by decide +kernel
theorem dL_room_17 : decode cL_room 17 = .ok (.iconst 2, 1) := by decide +kernel
theorem dL_room_18 : decode cL_room 18 = .ok (.if_icmp .ne 12, 3) := by decide +kernel
theorem dL_room_21 : decode cL_room 21 = .ok (.iload_n 1, 1) := by decide +kernel
theorem dL_room_22 : decode cL_room 22 = .ok (.iconst 3, 1) := by decide +kernel
theorem dL_room_23 : decode cL_room 23 = .ok (.if_icmp .ne 7, 3) := by decide +kernel
theorem dL_room_26 : decode cL_room 26 = .ok (.iconst 2, 1) := by decide +kernel
theorem dL_room_27 : decode cL_room 27 = .ok (.goto 18, 3) := by decide +kernel
theorem dL_room_30 : decode cL_room 30 = .ok (.iload_n 0, 1) := by decide +kernel
theorem dL_room_31 : decode cL_room 31 = .ok (.iconst 2, 1) := by decide +kernel
theorem dL_room_32 : decode cL_room 32 = .ok (.if_icmp .ne 12, 3) := by decide +kernel
theorem dL_room_35 : decode cL_room 35 = .ok (.iload_n 1, 1) := by decide +kernel
theorem dL_room_36 : decode cL_room 36 = .ok (.iconst 4, 1) := by decide +kernel
theorem dL_room_37 : decode cL_room 37 = .ok (.if_icmp .ne 7, 3) := by decide +kernel
theorem dL_room_40 : decode cL_room 40 = .ok (.iconst 1, 1) := by decide +kernel
theorem dL_room_41 : decode cL_room 41 = .ok (.goto 4, 3) := by decide +kernel
theorem dL_room_44 : decode cL_room 44 = .ok (.iconst 0, 1) := by decide +kernel
theorem dL_room_45 : decode cL_room 45 = .ok (.ireturn, 1) := by decide +kernel
theorem dL_stands_0 : decode cL_stands 0 = .ok (.iconst 0, 1) := by decide +kernel
theorem dL_stands_1 : decode cL_stands 1 = .ok (.istore_n 2, 1) := by decide +kernel
theorem dL_stands_2 : decode cL_stands 2 = .ok (.iconst 0, 1) := by decide +kernel
theorem dL_stands_3 : decode cL_stands 3 = .ok (.istore_n 3, 1) := by decide +kernel
theorem dL_stands_4 : decode cL_stands 4 = .ok (.iload_n 3, 1) := by decide +kernel
theorem dL_stands_5 : decode cL_stands 5 = .ok (.iconst 3, 1) := by decide +kernel
theorem dL_stands_6 : decode cL_stands 6 = .ok (.if_icmp .ge 45, 3) := by decide +kernel
theorem dL_stands_9 : decode cL_stands 9 = .ok (.iconst 0, 1) := by decide +kernel
theorem dL_stands_10 : decode cL_stands 10 = .ok (.istore 4, 2) := by decide +kernel
theorem dL_stands_12 : decode cL_stands 12 = .ok (.iload 4, 2) := by decide +kernel
theorem dL_stands_14 : decode cL_stands 14 = .ok (.iconst 4, 1) := by decide +kernel
theorem dL_stands_15 : decode cL_stands 15 = .ok (.if_icmp .ge 30, 3) := by decide +kernel
theorem dL_stands_18 : decode cL_stands 18 = .ok (.iload_n 2, 1) := by decide +kernel
theorem dL_stands_19 : decode cL_stands 19 = .ok (.ifCond .ne 14, 3) := by decide +kernel
theorem dL_stands_22 : decode cL_stands 22 = .ok (.aload_n 0, 1) := by decide +kernel
theorem dL_stands_23 : decode cL_stands 23 = .ok (.iload_n 3, 1) := by decide +kernel
theorem dL_stands_24 : decode cL_stands 24 = .ok (.iload 4, 2) := by decide +kernel
theorem dL_stands_26 : decode cL_stands 26 = .ok (.invokevirtual 25, 3) := by decide +kernel
theorem dL_stands_29 : decode cL_stands 29 = .ok (.iload_n 1, 1) := by decide +kernel
theorem dL_stands_30 : decode cL_stands 30 = .ok (.if_icmp .ne 7, 3) := by decide +kernel
theorem dL_stands_33 : decode cL_stands 33 = .ok (.iconst 1, 1) := by decide +kernel
theorem dL_stands_34 : decode cL_stands 34 = .ok (.goto 4, 3) := by decide +kernel
theorem dL_stands_37 : decode cL_stands 37 = .ok (.iconst 0, 1) := by decide +kernel
theorem dL_stands_38 : decode cL_stands 38 = .ok (.istore_n 2, 1) := by decide +kernel
theorem dL_stands_39 : decode cL_stands 39 = .ok (.iinc 4 1, 3) := by decide +kernel
theorem dL_stands_42 : decode cL_stands 42 = .ok (.goto (-30), 3) := by decide +kernel
theorem dL_stands_45 : decode cL_stands 45 = .ok (.iinc 3 1, 3) := by decide +kernel
theorem dL_stands_48 : decode cL_stands 48 = .ok (.goto (-44), 3) := by decide +kernel
theorem dL_stands_51 : decode cL_stands 51 = .ok (.iload_n 2, 1) := by decide +kernel
theorem dL_stands_52 : decode cL_stands 52 = .ok (.ireturn, 1) := by decide +kernel
theorem dL_law_0 : decode cL_law 0 = .ok (.new 9, 3) := by decide +kernel
theorem dL_law_3 : decode cL_law 3 = .ok (.dup, 1) := by decide +kernel
theorem dL_law_4 : decode cL_law 4 = .ok (.invokespecial 28, 3) := by decide +kernel
theorem dL_law_7 : decode cL_law 7 = .ok (.astore_n 1, 1) := by decide +kernel
theorem dL_law_8 : decode cL_law 8 = .ok (.aload_n 1, 1) := by decide +kernel
theorem dL_law_9 : decode cL_law 9 = .ok (.invokestatic 29, 3) := by decide +kernel
theorem dL_law_12 : decode cL_law 12 = .ok (.istore_n 2, 1) := by decide +kernel
theorem dL_law_13 : decode cL_law 13 = .ok (.iload_n 2, 1) := by decide +kernel
theorem dL_law_14 : decode cL_law 14 = .ok (.ifCond .eq 56, 3) := by decide +kernel
theorem dL_law_17 : decode cL_law 17 = .ok (.aload_n 1, 1) := by decide +kernel
theorem dL_law_18 : decode cL_law 18 = .ok (.iconst 0, 1) := by decide +kernel
theorem dL_law_19 : decode cL_law 19 = .ok (.bipush 9, 2) := by decide +kernel
theorem dL_law_21 : decode cL_law 21 = .ok (.iconst 2, 1) := by decide +kernel
theorem dL_law_22 : decode cL_law 22 = .ok (.invokevirtual 8, 3) := by decide +kernel
theorem dL_law_25 : decode cL_law 25 = .ok (.bipush 19, 2) := by decide +kernel
theorem dL_law_27 : decode cL_law 27 = .ok (.if_icmp .ne 43, 3) := by decide +kernel
theorem dL_law_30 : decode cL_law 30 = .ok (.aload_n 1, 1) := by decide +kernel
theorem dL_law_31 : decode cL_law 31 = .ok (.iconst 3, 1) := by decide +kernel
theorem dL_law_32 : decode cL_law 32 = .ok (.iconst 1, 1) := by decide +kernel
theorem dL_law_33 : decode cL_law 33 = .ok (.iconst 1, 1) := by decide +kernel
theorem dL_law_34 : decode cL_law 34 = .ok (.invokevirtual 8, 3) := by decide +kernel
theorem dL_law_37 : decode cL_law 37 = .ok (.bipush 20, 2) := by decide +kernel
theorem dL_law_39 : decode cL_law 39 = .ok (.if_icmp .ne 31, 3) := by decide +kernel
theorem dL_law_42 : decode cL_law 42 = .ok (.aload_n 1, 1) := by decide +kernel
theorem dL_law_43 : decode cL_law 43 = .ok (.iconst 4, 1) := by decide +kernel
theorem dL_law_44 : decode cL_law 44 = .ok (.iconst 2, 1) := by decide +kernel
theorem dL_law_45 : decode cL_law 45 = .ok (.iconst 2, 1) := by decide +kernel
theorem dL_law_46 : decode cL_law 46 = .ok (.invokevirtual 8, 3) := by decide +kernel
theorem dL_law_49 : decode cL_law 49 = .ok (.bipush 21, 2) := by decide +kernel
theorem dL_law_51 : decode cL_law 51 = .ok (.if_icmp .ne 19, 3) := by decide +kernel
theorem dL_law_54 : decode cL_law 54 = .ok (.aload_n 1, 1) := by decide +kernel
theorem dL_law_55 : decode cL_law 55 = .ok (.iconst 1, 1) := by decide +kernel
theorem dL_law_56 : decode cL_law 56 = .ok (.iconst 3, 1) := by decide +kernel
theorem dL_law_57 : decode cL_law 57 = .ok (.iconst 3, 1) := by decide +kernel
theorem dL_law_58 : decode cL_law 58 = .ok (.invokevirtual 8, 3) := by decide +kernel
theorem dL_law_61 : decode cL_law 61 = .ok (.bipush 22, 2) := by decide +kernel
theorem dL_law_63 : decode cL_law 63 = .ok (.if_icmp .ne 7, 3) := by decide +kernel
theorem dL_law_66 : decode cL_law 66 = .ok (.iconst 1, 1) := by decide +kernel
theorem dL_law_67 : decode cL_law 67 = .ok (.goto 4, 3) := by decide +kernel
theorem dL_law_70 : decode cL_law 70 = .ok (.iconst 0, 1) := by decide +kernel
theorem dL_law_71 : decode cL_law 71 = .ok (.istore_n 2, 1) := by decide +kernel
theorem dL_law_72 : decode cL_law 72 = .ok (.aload_n 1, 1) := by decide +kernel
theorem dL_law_73 : decode cL_law 73 = .ok (.iconst 3, 1) := by decide +kernel
theorem dL_law_74 : decode cL_law 74 = .ok (.sipush 9000, 3) := by decide +kernel
theorem dL_law_77 : decode cL_law 77 = .ok (.sipush 1500, 3) := by decide +kernel
theorem dL_law_80 : decode cL_law 80 = .ok (.sipush 400, 3) := by decide +kernel
theorem dL_law_83 : decode cL_law 83 = .ok (.invokevirtual 35, 3) := by decide +kernel
theorem dL_law_86 : decode cL_law 86 = .ok (.pop, 1) := by decide +kernel
theorem dL_law_87 : decode cL_law 87 = .ok (.aload_n 0, 1) := by decide +kernel
theorem dL_law_88 : decode cL_law 88 = .ok (.arraylength, 1) := by decide +kernel
theorem dL_law_89 : decode cL_law 89 = .ok (.bipush 45, 2) := by decide +kernel
theorem dL_law_91 : decode cL_law 91 = .ok (.if_icmp .ge 8, 3) := by decide +kernel
theorem dL_law_94 : decode cL_law 94 = .ok (.aload_n 0, 1) := by decide +kernel
theorem dL_law_95 : decode cL_law 95 = .ok (.arraylength, 1) := by decide +kernel
theorem dL_law_96 : decode cL_law 96 = .ok (.goto 5, 3) := by decide +kernel
theorem dL_law_99 : decode cL_law 99 = .ok (.bipush 45, 2) := by decide +kernel
theorem dL_law_101 : decode cL_law 101 = .ok (.istore_n 3, 1) := by decide +kernel
theorem dL_law_102 : decode cL_law 102 = .ok (.iconst 0, 1) := by decide +kernel
theorem dL_law_103 : decode cL_law 103 = .ok (.istore 4, 2) := by decide +kernel
theorem dL_law_105 : decode cL_law 105 = .ok (.iconst 0, 1) := by decide +kernel
theorem dL_law_106 : decode cL_law 106 = .ok (.istore 5, 2) := by decide +kernel
theorem dL_law_108 : decode cL_law 108 = .ok (.iload 5, 2) := by decide +kernel
theorem dL_law_110 : decode cL_law 110 = .ok (.iload_n 3, 1) := by decide +kernel
theorem dL_law_111 : decode cL_law 111 = .ok (.if_icmp .ge 1651, 3) := by decide +kernel
theorem dL_law_114 : decode cL_law 114 = .ok (.iload_n 2, 1) := by decide +kernel
theorem dL_law_115 : decode cL_law 115 = .ok (.ifCond .eq 1647, 3) := by decide +kernel
theorem dL_law_118 : decode cL_law 118 = .ok (.aload_n 0, 1) := by decide +kernel
theorem dL_law_119 : decode cL_law 119 = .ok (.iload 5, 2) := by decide +kernel
theorem dL_law_121 : decode cL_law 121 = .ok (.invokestatic 39, 3) := by decide +kernel
theorem dL_law_124 : decode cL_law 124 = .ok (.istore 6, 2) := by decide +kernel
theorem dL_law_126 : decode cL_law 126 = .ok (.iload 6, 2) := by decide +kernel
theorem dL_law_128 : decode cL_law 128 = .ok (.bipush 13, 2) := by decide +kernel
theorem dL_law_130 : decode cL_law 130 = .ok (.invokestatic 43, 3) := by decide +kernel
theorem dL_law_133 : decode cL_law 133 = .ok (.istore 7, 2) := by decide +kernel
theorem dL_law_135 : decode cL_law 135 = .ok (.iload 6, 2) := by decide +kernel
theorem dL_law_137 : decode cL_law 137 = .ok (.iconst 4, 1) := by decide +kernel
theorem dL_law_138 : decode cL_law 138 = .ok (.ishr, 1) := by decide +kernel
theorem dL_law_139 : decode cL_law 139 = .ok (.bipush 23, 2) := by decide +kernel
theorem dL_law_141 : decode cL_law 141 = .ok (.invokestatic 43, 3) := by decide +kernel
theorem dL_law_144 : decode cL_law 144 = .ok (.istore 8, 2) := by decide +kernel
theorem dL_law_146 : decode cL_law 146 = .ok (.aload_n 1, 1) := by decide +kernel
theorem dL_law_147 : decode cL_law 147 = .ok (.iload 8, 2) := by decide +kernel
theorem dL_law_149 : decode cL_law 149 = .ok (.invokevirtual 18, 3) := by decide +kernel
theorem dL_law_152 : decode cL_law 152 = .ok (.istore 9, 2) := by decide +kernel
theorem dL_law_154 : decode cL_law 154 = .ok (.aload_n 1, 1) := by decide +kernel
theorem dL_law_155 : decode cL_law 155 = .ok (.aload_n 1, 1) := by decide +kernel
theorem dL_law_156 : decode cL_law 156 = .ok (.iload 8, 2) := by decide +kernel
theorem dL_law_158 : decode cL_law 158 = .ok (.invokevirtual 46, 3) := by decide +kernel
theorem dL_law_161 : decode cL_law 161 = .ok (.invokestatic 49, 3) := by decide +kernel
theorem dL_law_164 : decode cL_law 164 = .ok (.istore 10, 2) := by decide +kernel
theorem dL_law_166 : decode cL_law 166 = .ok (.iload 7, 2) := by decide +kernel
theorem dL_law_168 : decode cL_law 168 = .ok (.ifCond .ne 74, 3) := by decide +kernel
theorem dL_law_171 : decode cL_law 171 = .ok (.aload_n 1, 1) := by decide +kernel
theorem dL_law_172 : decode cL_law 172 = .ok (.iconst 0, 1) := by decide +kernel
theorem dL_law_173 : decode cL_law 173 = .ok (.invokevirtual 53, 3) := by decide +kernel
theorem dL_law_176 : decode cL_law 176 = .ok (.istore 11, 2) := by decide +kernel
theorem dL_law_178 : decode cL_law 178 = .ok (.aload_n 1, 1) := by decide +kernel
theorem dL_law_179 : decode cL_law 179 = .ok (.iconst 0, 1) := by decide +kernel
theorem dL_law_180 : decode cL_law 180 = .ok (.invokevirtual 56, 3) := by decide +kernel
theorem dL_law_183 : decode cL_law 183 = .ok (.iload 11, 2) := by decide +kernel
theorem dL_law_185 : decode cL_law 185 = .ok (.if_icmp .ne 52, 3) := by decide +kernel
theorem dL_law_188 : decode cL_law 188 = .ok (.aload_n 1, 1) := by decide +kernel
theorem dL_law_189 : decode cL_law 189 = .ok (.iconst 0, 1) := by decide +kernel
theorem dL_law_190 : decode cL_law 190 = .ok (.invokevirtual 59, 3) := by decide +kernel
theorem dL_law_193 : decode cL_law 193 = .ok (.iload 11, 2) := by decide +kernel
theorem dL_law_195 : decode cL_law 195 = .ok (.ifCond .ne 7, 3) := by decide +kernel
theorem dL_law_198 : decode cL_law 198 = .ok (.iconst 1, 1) := by decide +kernel
theorem dL_law_199 : decode cL_law 199 = .ok (.goto 4, 3) := by decide +kernel
theorem dL_law_202 : decode cL_law 202 = .ok (.iconst 0, 1) := by decide +kernel
theorem dL_law_203 : decode cL_law 203 = .ok (.if_icmp .ne 34, 3) := by decide +kernel
theorem dL_law_206 : decode cL_law 206 = .ok (.aload_n 1, 1) := by decide +kernel
theorem dL_law_207 : decode cL_law 207 = .ok (.iconst 0, 1) := by decide +kernel
theorem dL_law_208 : decode cL_law 208 = .ok (.invokevirtual 63, 3) := by decide +kernel
theorem dL_law_211 : decode cL_law 211 = .ok (.iconst (-1), 1) := by decide +kernel
theorem dL_law_212 : decode cL_law 212 = .ok (.if_icmp .ne 7, 3) := by decide +kernel
theorem dL_law_215 : decode cL_law 215 = .ok (.iconst 1, 1) := by decide +kernel
theorem dL_law_216 : decode cL_law 216 = .ok (.goto 4, 3) := by decide +kernel
theorem dL_law_219 : decode cL_law 219 = .ok (.iconst 0, 1) := by decide +kernel
theorem dL_law_220 : decode cL_law 220 = .ok (.iload 11, 2) := by decide +kernel
theorem dL_law_222 : decode cL_law 222 = .ok (.ifCond .ne 7, 3) := by decide +kernel
theorem dL_law_225 : decode cL_law 225 = .ok (.iconst 1, 1) := by decide +kernel
theorem dL_law_226 : decode cL_law 226 = .ok (.goto 4, 3) := by decide +kernel
theorem dL_law_229 : decode cL_law 229 = .ok (.iconst 0, 1) := by decide +kernel
theorem dL_law_230 : decode cL_law 230 = .ok (.if_icmp .ne 7, 3) := by decide +kernel
theorem dL_law_233 : decode cL_law 233 = .ok (.iconst 1, 1) := by decide +kernel
theorem dL_law_234 : decode cL_law 234 = .ok (.goto 4, 3) := by decide +kernel
theorem dL_law_237 : decode cL_law 237 = .ok (.iconst 0, 1) := by decide +kernel
theorem dL_law_238 : decode cL_law 238 = .ok (.istore_n 2, 1) := by decide +kernel
theorem dL_law_239 : decode cL_law 239 = .ok (.goto 1336, 3) := by decide +kernel
theorem dL_law_242 : decode cL_law 242 = .ok (.iload 7, 2) := by decide +kernel
theorem dL_law_244 : decode cL_law 244 = .ok (.iconst 4, 1) := by decide +kernel
theorem dL_law_245 : decode cL_law 245 = .ok (.if_icmp .ge 171, 3) := by decide +kernel
theorem dL_law_248 : decode cL_law 248 = .ok (.aload_n 1, 1) := by decide +kernel
theorem dL_law_249 : decode cL_law 249 = .ok (.iconst 0, 1) := by decide +kernel
theorem dL_law_250 : decode cL_law 250 = .ok (.invokevirtual 56, 3) := by decide +kernel
theorem dL_law_253 : decode cL_law 253 = .ok (.pop, 1) := by decide +kernel
theorem dL_law_254 : decode cL_law 254 = .ok (.aload_n 1, 1) := by decide +kernel
theorem dL_law_255 : decode cL_law 255 = .ok (.iconst 0, 1) := by decide +kernel
theorem dL_law_256 : decode cL_law 256 = .ok (.invokevirtual 59, 3) := by decide +kernel
theorem dL_law_259 : decode cL_law 259 = .ok (.ifCond .eq 1316, 3) := by decide +kernel
theorem dL_law_262 : decode cL_law 262 = .ok (.aload_n 1, 1) := by decide +kernel
theorem dL_law_263 : decode cL_law 263 = .ok (.iconst 0, 1) := by decide +kernel
theorem dL_law_264 : decode cL_law 264 = .ok (.invokestatic 49, 3) := by decide +kernel
theorem dL_law_267 : decode cL_law 267 = .ok (.ifCond .ne 1308, 3) := by decide +kernel
theorem dL_law_270 : decode cL_law 270 = .ok (.iconst 1, 1) := by decide +kernel
theorem dL_law_271 : decode cL_law 271 = .ok (.iload 6, 2) := by decide +kernel
theorem dL_law_273 : decode cL_law 273 = .ok (.iconst 4, 1) := by decide +kernel
theorem dL_law_274 : decode cL_law 274 = .ok (.ishr, 1) := by decide +kernel
theorem dL_law_275 : decode cL_law 275 = .ok (.sipush 900, 3) := by decide +kernel
theorem dL_law_278 : decode cL_law 278 = .ok (.invokestatic 43, 3) := by decide +kernel
theorem dL_law_281 : decode cL_law 281 = .ok (.iadd, 1) := by decide +kernel
theorem dL_law_282 : decode cL_law 282 = .ok (.istore 11, 2) := by decide +kernel
theorem dL_law_284 : decode cL_law 284 = .ok (.aload_n 1, 1) := by decide +kernel
theorem dL_law_285 : decode cL_law 285 = .ok (.bipush 7, 2) := by decide +kernel
theorem dL_law_287 : decode cL_law 287 = .ok (.iconst 3, 1) := by decide +kernel
theorem dL_law_288 : decode cL_law 288 = .ok (.invokevirtual 22, 3) := by decide +kernel
theorem dL_law_291 : decode cL_law 291 = .ok (.istore 12, 2) := by decide +kernel
theorem dL_law_293 : decode cL_law 293 = .ok (.aload_n 1, 1) := by decide +kernel
theorem dL_law_294 : decode cL_law 294 = .ok (.bipush 20, 2) := by decide +kernel
theorem dL_law_296 : decode cL_law 296 = .ok (.iconst 3, 1) := by decide +kernel
theorem dL_law_297 : decode cL_law 297 = .ok (.invokevirtual 22, 3) := by decide +kernel
theorem dL_law_300 : decode cL_law 300 = .ok (.istore 13, 2) := by decide +kernel
theorem dL_law_302 : decode cL_law 302 = .ok (.aload_n 1, 1) := by decide +kernel
theorem dL_law_303 : decode cL_law 303 = .ok (.bipush 20, 2) := by decide +kernel
theorem dL_law_305 : decode cL_law 305 = .ok (.invokevirtual 46, 3) := by decide +kernel
theorem dL_law_308 : decode cL_law 308 = .ok (.ifCond .ne 7, 3) := by decide +kernel
theorem dL_law_311 : decode cL_law 311 = .ok (.iconst 1, 1) := by decide +kernel
theorem dL_law_312 : decode cL_law 312 = .ok (.goto 4, 3) := by decide +kernel
theorem dL_law_315 : decode cL_law 315 = .ok (.iconst 0, 1) := by decide +kernel
theorem dL_law_316 : decode cL_law 316 = .ok (.istore 14, 2) := by decide +kernel
theorem dL_law_318 : decode cL_law 318 = .ok (.aload_n 1, 1) := by decide +kernel
theorem dL_law_319 : decode cL_law 319 = .ok (.bipush 7, 2) := by decide +kernel
theorem dL_law_321 : decode cL_law 321 = .ok (.invokevirtual 46, 3) := by decide +kernel
theorem dL_law_324 : decode cL_law 324 = .ok (.ifCond .ne 7, 3) := by decide +kernel
theorem dL_law_327 : decode cL_law 327 = .ok (.iconst 1, 1) := by decide +kernel
theorem dL_law_328 : decode cL_law 328 = .ok (.goto 4, 3) := by decide +kernel
theorem dL_law_331 : decode cL_law 331 = .ok (.iconst 0, 1) := by decide +kernel
theorem dL_law_332 : decode cL_law 332 = .ok (.istore 15, 2) := by decide +kernel
theorem dL_law_334 : decode cL_law 334 = .ok (.aload_n 1, 1) := by decide +kernel
theorem dL_law_335 : decode cL_law 335 = .ok (.iconst 0, 1) := by decide +kernel
theorem dL_law_336 : decode cL_law 336 = .ok (.iload 11, 2) := by decide +kernel
theorem dL_law_338 : decode cL_law 338 = .ok (.iload 6, 2) := by decide +kernel
theorem dL_law_340 : decode cL_law 340 = .ok (.bipush 6, 2) := by decide +kernel
theorem dL_law_342 : decode cL_law 342 = .ok (.ishr, 1) := by decide +kernel
theorem dL_law_343 : decode cL_law 343 = .ok (.iconst 4, 1) := by decide +kernel
theorem dL_law_344 : decode cL_law 344 = .ok (.invokestatic 43, 3) := by decide +kernel
theorem dL_law_347 : decode cL_law 347 = .ok (.invokevirtual 66, 3) := by decide +kernel
theorem dL_law_350 : decode cL_law 350 = .ok (.pop, 1) := by decide +kernel
theorem dL_law_351 : decode cL_law 351 = .ok (.aload_n 1, 1) := by decide +kernel
theorem dL_law_352 : decode cL_law 352 = .ok (.bipush 7, 2) := by decide +kernel
theorem dL_law_354 : decode cL_law 354 = .ok (.iconst 3, 1) := by decide +kernel
theorem dL_law_355 : decode cL_law 355 = .ok (.invokevirtual 22, 3) := by decide +kernel
theorem dL_law_358 : decode cL_law 358 = .ok (.iload 12, 2) := by decide +kernel
theorem dL_law_360 : decode cL_law 360 = .ok (.iload 15, 2) := by decide +kernel
theorem dL_law_362 : decode cL_law 362 = .ok (.ifCond .eq 8, 3) := by decide +kernel
theorem dL_law_365 : decode cL_law 365 = .ok (.iload 11, 2) := by decide +kernel
theorem dL_law_367 : decode cL_law 367 = .ok (.goto 4, 3) := by decide +kernel
theorem dL_law_370 : decode cL_law 370 = .ok (.iconst 0, 1) := by decide +kernel
theorem dL_law_371 : decode cL_law 371 = .ok (.iadd, 1) := by decide +kernel
theorem dL_law_372 : decode cL_law 372 = .ok (.if_icmp .ne 39, 3) := by decide +kernel
theorem dL_law_375 : decode cL_law 375 = .ok (.aload_n 1, 1) := by decide +kernel
theorem dL_law_376 : decode cL_law 376 = .ok (.bipush 20, 2) := by decide +kernel
theorem dL_law_378 : decode cL_law 378 = .ok (.iconst 3, 1) := by decide +kernel
theorem dL_law_379 : decode cL_law 379 = .ok (.invokevirtual 22, 3) := by decide +kernel
theorem dL_law_382 : decode cL_law 382 = .ok (.iload 13, 2) := by decide +kernel
theorem dL_law_384 : decode cL_law 384 = .ok (.iload 14, 2) := by decide +kernel
theorem dL_law_386 : decode cL_law 386 = .ok (.ifCond .eq 8, 3) := by decide +kernel
theorem dL_law_389 : decode cL_law 389 = .ok (.iload 11, 2) := by decide +kernel
theorem dL_law_391 : decode cL_law 391 = .ok (.goto 4, 3) := by decide +kernel
theorem dL_law_394 : decode cL_law 394 = .ok (.iconst 0, 1) := by decide +kernel
theorem dL_law_395 : decode cL_law 395 = .ok (.iadd, 1) := by decide +kernel
theorem dL_law_396 : decode cL_law 396 = .ok (.if_icmp .ne 15, 3) := by decide +kernel
theorem dL_law_399 : decode cL_law 399 = .ok (.aload_n 1, 1) := by decide +kernel
theorem dL_law_400 : decode cL_law 400 = .ok (.iconst 0, 1) := by decide +kernel
theorem dL_law_401 : decode cL_law 401 = .ok (.invokevirtual 59, 3) := by decide +kernel
theorem dL_law_404 : decode cL_law 404 = .ok (.ifCond .ne 7, 3) := by decide +kernel
theorem dL_law_407 : decode cL_law 407 = .ok (.iconst 1, 1) := by decide +kernel
theorem dL_law_408 : decode cL_law 408 = .ok (.goto 4, 3) := by decide +kernel
theorem dL_law_411 : decode cL_law 411 = .ok (.iconst 0, 1) := by decide +kernel
theorem dL_law_412 : decode cL_law 412 = .ok (.istore_n 2, 1) := by decide +kernel
theorem dL_law_413 : decode cL_law 413 = .ok (.goto 1162, 3) := by decide +kernel
theorem dL_law_416 : decode cL_law 416 = .ok (.iload 7, 2) := by decide +kernel
theorem dL_law_418 : decode cL_law 418 = .ok (.iconst 4, 1) := by decide +kernel
theorem dL_law_419 : decode cL_law 419 = .ok (.if_icmp .ne 137, 3) := by decide +kernel
theorem dL_law_422 : decode cL_law 422 = .ok (.iload 8, 2) := by decide +kernel
theorem dL_law_424 : decode cL_law 424 = .ok (.bipush 21, 2) := by decide +kernel
theorem dL_law_426 : decode cL_law 426 = .ok (.if_icmp .ne 58, 3) := by decide +kernel
theorem dL_law_429 : decode cL_law 429 = .ok (.iload 9, 2) := by decide +kernel
theorem dL_law_431 : decode cL_law 431 = .ok (.iconst (-1), 1) := by decide +kernel
theorem dL_law_432 : decode cL_law 432 = .ok (.if_icmp .ne 52, 3) := by decide +kernel
theorem dL_law_435 : decode cL_law 435 = .ok (.iload 6, 2) := by decide +kernel
theorem dL_law_437 : decode cL_law 437 = .ok (.bipush 9, 2) := by decide +kernel
theorem dL_law_439 : decode cL_law 439 = .ok (.ishr, 1) := by decide +kernel
theorem dL_law_440 : decode cL_law 440 = .ok (.iconst 3, 1) := by decide +kernel
theorem dL_law_441 : decode cL_law 441 = .ok (.invokestatic 43, 3) := by decide +kernel
theorem dL_law_444 : decode cL_law 444 = .ok (.ifCond .ne 40, 3) := by decide +kernel
theorem dL_law_447 : decode cL_law 447 = .ok (.aload_n 1, 1) := by decide +kernel
theorem dL_law_448 : decode cL_law 448 = .ok (.bipush 21, 2) := by decide +kernel
theorem dL_law_450 : decode cL_law 450 = .ok (.invokevirtual 69, 3) := by decide +kernel
theorem dL_law_453 : decode cL_law 453 = .ok (.aload_n 1, 1) := by decide +kernel
theorem dL_law_454 : decode cL_law 454 = .ok (.bipush 21, 2) := by decide +kernel
theorem dL_law_456 : decode cL_law 456 = .ok (.invokevirtual 18, 3) := by decide +kernel
theorem dL_law_459 : decode cL_law 459 = .ok (.bipush (-2), 2) := by decide +kernel
theorem dL_law_461 : decode cL_law 461 = .ok (.if_icmp .ne 18, 3) := by decide +kernel
theorem dL_law_464 : decode cL_law 464 = .ok (.aload_n 1, 1) := by decide +kernel
theorem dL_law_465 : decode cL_law 465 = .ok (.bipush 21, 2) := by decide +kernel
theorem dL_law_467 : decode cL_law 467 = .ok (.invokevirtual 46, 3) := by decide +kernel
theorem dL_law_470 : decode cL_law 470 = .ok (.bipush 21, 2) := by decide +kernel
theorem dL_law_472 : decode cL_law 472 = .ok (.if_icmp .ne 7, 3) := by decide +kernel
theorem dL_law_475 : decode cL_law 475 = .ok (.iconst 1, 1) := by decide +kernel
theorem dL_law_476 : decode cL_law 476 = .ok (.goto 4, 3) := by decide +kernel
theorem dL_law_479 : decode cL_law 479 = .ok (.iconst 0, 1) := by decide +kernel
theorem dL_law_480 : decode cL_law 480 = .ok (.istore_n 2, 1) := by decide +kernel
theorem dL_law_481 : decode cL_law 481 = .ok (.goto 1094, 3) := by decide +kernel
theorem dL_law_484 : decode cL_law 484 = .ok (.iload 9, 2) := by decide +kernel
theorem dL_law_486 : decode cL_law 486 = .ok (.ifCond .lt 1089, 3) := by decide +kernel
theorem dL_law_489 : decode cL_law 489 = .ok (.iload 10, 2) := by decide +kernel
theorem dL_law_491 : decode cL_law 491 = .ok (.ifCond .ne 1084, 3) := by decide +kernel
theorem dL_law_494 : decode cL_law 494 = .ok (.aload_n 1, 1) := by decide +kernel
theorem dL_law_495 : decode cL_law 495 = .ok (.iload 8, 2) := by decide +kernel
theorem dL_law_497 : decode cL_law 497 = .ok (.invokevirtual 46, 3) := by decide +kernel
theorem dL_law_500 : decode cL_law 500 = .ok (.istore 11, 2) := by decide +kernel
theorem dL_law_502 : decode cL_law 502 = .ok (.aload_n 1, 1) := by decide +kernel
theorem dL_law_503 : decode cL_law 503 = .ok (.iload 8, 2) := by decide +kernel
theorem dL_law_505 : decode cL_law 505 = .ok (.invokevirtual 73, 3) := by decide +kernel
theorem dL_law_508 : decode cL_law 508 = .ok (.iload 9, 2) := by decide +kernel
theorem dL_law_510 : decode cL_law 510 = .ok (.if_icmp .ne 41, 3) := by decide +kernel
theorem dL_law_513 : decode cL_law 513 = .ok (.aload_n 1, 1) := by decide +kernel
theorem dL_law_514 : decode cL_law 514 = .ok (.iload 8, 2) := by decide +kernel
theorem dL_law_516 : decode cL_law 516 = .ok (.invokevirtual 18, 3) := by decide +kernel
theorem dL_law_519 : decode cL_law 519 = .ok (.iconst (-1), 1) := by decide +kernel
theorem dL_law_520 : decode cL_law 520 = .ok (.if_icmp .ne 31, 3) := by decide +kernel
theorem dL_law_523 : decode cL_law 523 = .ok (.aload_n 1, 1) := by decide +kernel
theorem dL_law_524 : decode cL_law 524 = .ok (.iload 8, 2) := by decide +kernel
theorem dL_law_526 : decode cL_law 526 = .ok (.invokevirtual 46, 3) := by decide +kernel
theorem dL_law_529 : decode cL_law 529 = .ok (.iload 8, 2) := by decide +kernel
theorem dL_law_531 : decode cL_law 531 = .ok (.if_icmp .ne 20, 3) := by decide +kernel
theorem dL_law_534 : decode cL_law 534 = .ok (.iload 11, 2) := by decide +kernel
theorem dL_law_536 : decode cL_law 536 = .ok (.ifCond .ne 11, 3) := by decide +kernel
theorem dL_law_539 : decode cL_law 539 = .ok (.aload_n 1, 1) := by decide +kernel
theorem dL_law_540 : decode cL_law 540 = .ok (.iconst 0, 1) := by decide +kernel
theorem dL_law_541 : decode cL_law 541 = .ok (.invokevirtual 59, 3) := by decide +kernel
theorem dL_law_544 : decode cL_law 544 = .ok (.ifCond .ne 7, 3) := by decide +kernel
theorem dL_law_547 : decode cL_law 547 = .ok (.iconst 1, 1) := by decide +kernel
theorem dL_law_548 : decode cL_law 548 = .ok (.goto 4, 3) := by decide +kernel
theorem dL_law_551 : decode cL_law 551 = .ok (.iconst 0, 1) := by decide +kernel
theorem dL_law_552 : decode cL_law 552 = .ok (.istore_n 2, 1) := by decide +kernel
theorem dL_law_553 : decode cL_law 553 = .ok (.goto 1022, 3) := by decide +kernel
theorem dL_law_556 : decode cL_law 556 = .ok (.iload 7, 2) := by decide +kernel
theorem dL_law_558 : decode cL_law 558 = .ok (.iconst 5, 1) := by decide +kernel
theorem dL_law_559 : decode cL_law 559 = .ok (.if_icmp .ne 197, 3) := by decide +kernel
theorem dL_law_562 : decode cL_law 562 = .ok (.iload 6, 2) := by decide +kernel
theorem dL_law_564 : decode cL_law 564 = .ok (.bipush 9, 2) := by decide +kernel
theorem dL_law_566 : decode cL_law 566 = .ok (.ishr, 1) := by decide +kernel
theorem dL_law_567 : decode cL_law 567 = .ok (.bipush 23, 2) := by decide +kernel
theorem dL_law_569 : decode cL_law 569 = .ok (.invokestatic 43, 3) := by decide +kernel
theorem dL_law_572 : decode cL_law 572 = .ok (.istore 11, 2) := by decide +kernel
theorem dL_law_574 : decode cL_law 574 = .ok (.aload_n 1, 1) := by decide +kernel
theorem dL_law_575 : decode cL_law 575 = .ok (.iload 8, 2) := by decide +kernel
theorem dL_law_577 : decode cL_law 577 = .ok (.iconst 0, 1) := by decide +kernel
theorem dL_law_578 : decode cL_law 578 = .ok (.invokevirtual 22, 3) := by decide +kernel
theorem dL_law_581 : decode cL_law 581 = .ok (.istore 12, 2) := by decide +kernel
theorem dL_law_583 : decode cL_law 583 = .ok (.aload_n 1, 1) := by decide +kernel
theorem dL_law_584 : decode cL_law 584 = .ok (.iload 8, 2) := by decide +kernel
theorem dL_law_586 : decode cL_law 586 = .ok (.iconst 2, 1) := by decide +kernel
theorem dL_law_587 : decode cL_law 587 = .ok (.invokevirtual 22, 3) := by decide +kernel
theorem dL_law_590 : decode cL_law 590 = .ok (.aload_n 1, 1) := by decide +kernel
theorem dL_law_591 : decode cL_law 591 = .ok (.iload 11, 2) := by decide +kernel
theorem dL_law_593 : decode cL_law 593 = .ok (.iconst 2, 1) := by decide +kernel
theorem dL_law_594 : decode cL_law 594 = .ok (.invokevirtual 22, 3) := by decide +kernel
theorem dL_law_597 : decode cL_law 597 = .ok (.isub, 1) := by decide +kernel
theorem dL_law_598 : decode cL_law 598 = .ok (.istore 13, 2) := by decide +kernel
theorem dL_law_600 : decode cL_law 600 = .ok (.iload 9, 2) := by decide +kernel
theorem dL_law_602 : decode cL_law 602 = .ok (.iconst (-1), 1) := by decide +kernel
theorem dL_law_603 : decode cL_law 603 = .ok (.if_icmp .ne 55, 3) := by decide +kernel
theorem dL_law_606 : decode cL_law 606 = .ok (.aload_n 1, 1) := by decide +kernel
theorem dL_law_607 : decode cL_law 607 = .ok (.iload 8, 2) := by decide +kernel
theorem dL_law_609 : decode cL_law 609 = .ok (.bipush 6, 2) := by decide +kernel
theorem dL_law_611 : decode cL_law 611 = .ok (.invokevirtual 22, 3) := by decide +kernel
theorem dL_law_614 : decode cL_law 614 = .ok (.ifCond .ne 44, 3) := by decide +kernel
theorem dL_law_617 : decode cL_law 617 = .ok (.aload_n 1, 1) := by decide +kernel
theorem dL_law_618 : decode cL_law 618 = .ok (.iload 11, 2) := by decide +kernel
theorem dL_law_620 : decode cL_law 620 = .ok (.invokevirtual 18, 3) := by decide +kernel
theorem dL_law_623 : decode cL_law 623 = .ok (.bipush (-2), 2) := by decide +kernel
theorem dL_law_625 : decode cL_law 625 = .ok (.if_icmp .eq 33, 3) := by decide +kernel
theorem dL_law_628 : decode cL_law 628 = .ok (.aload_n 1, 1) := by decide +kernel
theorem dL_law_629 : decode cL_law 629 = .ok (.aload_n 1, 1) := by decide +kernel
theorem dL_law_630 : decode cL_law 630 = .ok (.iload 11, 2) := by decide +kernel
theorem dL_law_632 : decode cL_law 632 = .ok (.invokevirtual 46, 3) := by decide +kernel
theorem dL_law_635 : decode cL_law 635 = .ok (.invokestatic 49, 3) := by decide +kernel
theorem dL_law_638 : decode cL_law 638 = .ok (.ifCond .ne 20, 3) := by decide +kernel
theorem dL_law_641 : decode cL_law 641 = .ok (.iload 13, 2) := by decide +kernel
theorem dL_law_643 : decode cL_law 643 = .ok (.iconst 2, 1) := by decide +kernel
theorem dL_law_644 : decode cL_law 644 = .ok (.if_icmp .ge 14, 3) := by decide +kernel
theorem dL_law_647 : decode cL_law 647 = .ok (.iload 13, 2) := by decide +kernel
theorem dL_law_649 : decode cL_law 649 = .ok (.bipush (-2), 2) := by decide +kernel
theorem dL_law_651 : decode cL_law 651 = .ok (.if_icmp .le 7, 3) := by decide +kernel
theorem dL_law_654 : decode cL_law 654 = .ok (.iconst 1, 1) := by decide +kernel
theorem dL_law_655 : decode cL_law 655 = .ok (.goto 4, 3) := by decide +kernel
theorem dL_law_658 : decode cL_law 658 = .ok (.iconst 0, 1) := by decide +kernel
theorem dL_law_659 : decode cL_law 659 = .ok (.istore 14, 2) := by decide +kernel
theorem dL_law_661 : decode cL_law 661 = .ok (.aload_n 1, 1) := by decide +kernel
theorem dL_law_662 : decode cL_law 662 = .ok (.iload 11, 2) := by decide +kernel
theorem dL_law_664 : decode cL_law 664 = .ok (.iload 12, 2) := by decide +kernel
theorem dL_law_666 : decode cL_law 666 = .ok (.invokestatic 76, 3) := by decide +kernel
theorem dL_law_669 : decode cL_law 669 = .ok (.istore 15, 2) := by decide +kernel
theorem dL_law_671 : decode cL_law 671 = .ok (.iload 14, 2) := by decide +kernel
theorem dL_law_673 : decode cL_law 673 = .ok (.ifCond .eq 80, 3) := by decide +kernel
theorem dL_law_676 : decode cL_law 676 = .ok (.iload 15, 2) := by decide +kernel
theorem dL_law_678 : decode cL_law 678 = .ok (.aload_n 1, 1) := by decide +kernel
theorem dL_law_679 : decode cL_law 679 = .ok (.iload 11, 2) := by decide +kernel
theorem dL_law_681 : decode cL_law 681 = .ok (.iconst 0, 1) := by decide +kernel
theorem dL_law_682 : decode cL_law 682 = .ok (.invokevirtual 22, 3) := by decide +kernel
theorem dL_law_685 : decode cL_law 685 = .ok (.iload 12, 2) := by decide +kernel
theorem dL_law_687 : decode cL_law 687 = .ok (.invokestatic 80, 3) := by decide +kernel
theorem dL_law_690 : decode cL_law 690 = .ok (.if_icmp .ge 63, 3) := by decide +kernel
theorem dL_law_693 : decode cL_law 693 = .ok (.aload_n 1, 1) := by decide +kernel
theorem dL_law_694 : decode cL_law 694 = .ok (.iload 8, 2) := by decide +kernel
theorem dL_law_696 : decode cL_law 696 = .ok (.iload 11, 2) := by decide +kernel
theorem dL_law_698 : decode cL_law 698 = .ok (.invokevirtual 14, 3) := by decide +kernel
theorem dL_law_701 : decode cL_law 701 = .ok (.iload 15, 2) := by decide +kernel
theorem dL_law_703 : decode cL_law 703 = .ok (.if_icmp .le 48, 3) := by decide +kernel
theorem dL_law_706 : decode cL_law 706 = .ok (.aload_n 1, 1) := by decide +kernel
theorem dL_law_707 : decode cL_law 707 = .ok (.iload 8, 2) := by decide +kernel
theorem dL_law_709 : decode cL_law 709 = .ok (.invokevirtual 18, 3) := by decide +kernel
theorem dL_law_712 : decode cL_law 712 = .ok (.iload 11, 2) := by decide +kernel
theorem dL_law_714 : decode cL_law 714 = .ok (.if_icmp .ne 37, 3) := by decide +kernel
theorem dL_law_717 : decode cL_law 717 = .ok (.aload_n 1, 1) := by decide +kernel
theorem dL_law_718 : decode cL_law 718 = .ok (.iload 11, 2) := by decide +kernel
theorem dL_law_720 : decode cL_law 720 = .ok (.iload 12, 2) := by decide +kernel
theorem dL_law_722 : decode cL_law 722 = .ok (.invokestatic 76, 3) := by decide +kernel
theorem dL_law_725 : decode cL_law 725 = .ok (.iload 15, 2) := by decide +kernel
theorem dL_law_727 : decode cL_law 727 = .ok (.iconst 1, 1) := by decide +kernel
theorem dL_law_728 : decode cL_law 728 = .ok (.iadd, 1) := by decide +kernel
theorem dL_law_729 : decode cL_law 729 = .ok (.if_icmp .ne 22, 3) := by decide +kernel
theorem dL_law_732 : decode cL_law 732 = .ok (.aload_n 1, 1) := by decide +kernel
theorem dL_law_733 : decode cL_law 733 = .ok (.iload 8, 2) := by decide +kernel
theorem dL_law_735 : decode cL_law 735 = .ok (.invokevirtual 46, 3) := by decide +kernel
theorem dL_law_738 : decode cL_law 738 = .ok (.aload_n 1, 1) := by decide +kernel
theorem dL_law_739 : decode cL_law 739 = .ok (.iload 11, 2) := by decide +kernel
theorem dL_law_741 : decode cL_law 741 = .ok (.invokevirtual 46, 3) := by decide +kernel
theorem dL_law_744 : decode cL_law 744 = .ok (.if_icmp .ne 7, 3) := by decide +kernel
theorem dL_law_747 : decode cL_law 747 = .ok (.iconst 1, 1) := by decide +kernel
theorem dL_law_748 : decode cL_law 748 = .ok (.goto 4, 3) := by decide +kernel
theorem dL_law_751 : decode cL_law 751 = .ok (.iconst 0, 1) := by decide +kernel
theorem dL_law_752 : decode cL_law 752 = .ok (.istore_n 2, 1) := by decide +kernel
theorem dL_law_753 : decode cL_law 753 = .ok (.goto 822, 3) := by decide +kernel
theorem dL_law_756 : decode cL_law 756 = .ok (.iload 7, 2) := by decide +kernel
theorem dL_law_758 : decode cL_law 758 = .ok (.bipush 6, 2) := by decide +kernel
theorem dL_law_760 : decode cL_law 760 = .ok (.if_icmp .ne 66, 3) := by decide +kernel
theorem dL_law_763 : decode cL_law 763 = .ok (.iconst 3, 1) := by decide +kernel
theorem dL_law_764 : decode cL_law 764 = .ok (.iload 6, 2) := by decide +kernel
theorem dL_law_766 : decode cL_law 766 = .ok (.iconst 4, 1) := by decide +kernel
theorem dL_law_767 : decode cL_law 767 = .ok (.ishr, 1) := by decide +kernel
theorem dL_law_768 : decode cL_law 768 = .ok (.iconst 4, 1) := by decide +kernel
theorem dL_law_769 : decode cL_law 769 = .ok (.invokestatic 43, 3) := by decide +kernel
theorem dL_law_772 : decode cL_law 772 = .ok (.iadd, 1) := by decide +kernel
theorem dL_law_773 : decode cL_law 773 = .ok (.istore 11, 2) := by decide +kernel
theorem dL_law_775 : decode cL_law 775 = .ok (.aload_n 1, 1) := by decide +kernel
theorem dL_law_776 : decode cL_law 776 = .ok (.iload 11, 2) := by decide +kernel
theorem dL_law_778 : decode cL_law 778 = .ok (.iconst 3, 1) := by decide +kernel
theorem dL_law_779 : decode cL_law 779 = .ok (.invokestatic 76, 3) := by decide +kernel
theorem dL_law_782 : decode cL_law 782 = .ok (.iconst 2, 1) := by decide +kernel
theorem dL_law_783 : decode cL_law 783 = .ok (.if_icmp .ne 40, 3) := by decide +kernel
theorem dL_law_786 : decode cL_law 786 = .ok (.aload_n 1, 1) := by decide +kernel
theorem dL_law_787 : decode cL_law 787 = .ok (.aload_n 1, 1) := by decide +kernel
theorem dL_law_788 : decode cL_law 788 = .ok (.iload 11, 2) := by decide +kernel
theorem dL_law_790 : decode cL_law 790 = .ok (.invokevirtual 46, 3) := by decide +kernel
theorem dL_law_793 : decode cL_law 793 = .ok (.invokestatic 49, 3) := by decide +kernel
theorem dL_law_796 : decode cL_law 796 = .ok (.ifCond .ne 27, 3) := by decide +kernel
theorem dL_law_799 : decode cL_law 799 = .ok (.aload_n 1, 1) := by decide +kernel
theorem dL_law_800 : decode cL_law 800 = .ok (.iload 11, 2) := by decide +kernel
theorem dL_law_802 : decode cL_law 802 = .ok (.invokevirtual 83, 3) := by decide +kernel
theorem dL_law_805 : decode cL_law 805 = .ok (.ifCond .lt 16, 3) := by decide +kernel
theorem dL_law_808 : decode cL_law 808 = .ok (.aload_n 1, 1) := by decide +kernel
theorem dL_law_809 : decode cL_law 809 = .ok (.iload 11, 2) := by decide +kernel
theorem dL_law_811 : decode cL_law 811 = .ok (.invokevirtual 83, 3) := by decide +kernel
theorem dL_law_814 : decode cL_law 814 = .ok (.ifCond .ne 7, 3) := by decide +kernel
theorem dL_law_817 : decode cL_law 817 = .ok (.iconst 1, 1) := by decide +kernel
theorem dL_law_818 : decode cL_law 818 = .ok (.goto 4, 3) := by decide +kernel
theorem dL_law_821 : decode cL_law 821 = .ok (.iconst 0, 1) := by decide +kernel
theorem dL_law_822 : decode cL_law 822 = .ok (.istore_n 2, 1) := by decide +kernel
theorem dL_law_823 : decode cL_law 823 = .ok (.goto 752, 3) := by decide +kernel
theorem dL_law_826 : decode cL_law 826 = .ok (.iload 7, 2) := by decide +kernel
theorem dL_law_828 : decode cL_law 828 = .ok (.bipush 7, 2) := by decide +kernel
theorem dL_law_830 : decode cL_law 830 = .ok (.if_icmp .ne 110, 3) := by decide +kernel
theorem dL_law_833 : decode cL_law 833 = .ok (.bipush 7, 2) := by decide +kernel
theorem dL_law_835 : decode cL_law 835 = .ok (.iload 6, 2) := by decide +kernel
theorem dL_law_837 : decode cL_law 837 = .ok (.iconst 4, 1) := by decide +kernel
theorem dL_law_838 : decode cL_law 838 = .ok (.ishr, 1) := by decide +kernel
theorem dL_law_839 : decode cL_law 839 = .ok (.bipush 8, 2) := by decide +kernel
theorem dL_law_841 : decode cL_law 841 = .ok (.invokestatic 43, 3) := by decide +kernel
theorem dL_law_844 : decode cL_law 844 = .ok (.iadd, 1) := by decide +kernel
theorem dL_law_845 : decode cL_law 845 = .ok (.istore 11, 2) := by decide +kernel
theorem dL_law_847 : decode cL_law 847 = .ok (.iload 6, 2) := by decide +kernel
theorem dL_law_849 : decode cL_law 849 = .ok (.bipush 7, 2) := by decide +kernel
theorem dL_law_851 : decode cL_law 851 = .ok (.ishr, 1) := by decide +kernel
theorem dL_law_852 : decode cL_law 852 = .ok (.bipush 11, 2) := by decide +kernel
theorem dL_law_854 : decode cL_law 854 = .ok (.invokestatic 43, 3) := by decide +kernel
theorem dL_law_857 : decode cL_law 857 = .ok (.iconst 5, 1) := by decide +kernel
theorem dL_law_858 : decode cL_law 858 = .ok (.isub, 1) := by decide +kernel
theorem dL_law_859 : decode cL_law 859 = .ok (.istore 12, 2) := by decide +kernel
theorem dL_law_861 : decode cL_law 861 = .ok (.aload_n 1, 1) := by decide +kernel
theorem dL_law_862 : decode cL_law 862 = .ok (.iload 11, 2) := by decide +kernel
theorem dL_law_864 : decode cL_law 864 = .ok (.iload 12, 2) := by decide +kernel
theorem dL_law_866 : decode cL_law 866 = .ok (.invokevirtual 86, 3) := by decide +kernel
theorem dL_law_869 : decode cL_law 869 = .ok (.istore 13, 2) := by decide +kernel
theorem dL_law_871 : decode cL_law 871 = .ok (.iload 13, 2) := by decide +kernel
theorem dL_law_873 : decode cL_law 873 = .ok (.aload_n 1, 1) := by decide +kernel
theorem dL_law_874 : decode cL_law 874 = .ok (.iload 11, 2) := by decide +kernel
theorem dL_law_876 : decode cL_law 876 = .ok (.iconst 1, 1) := by decide +kernel
theorem dL_law_877 : decode cL_law 877 = .ok (.invokevirtual 89, 3) := by decide +kernel
theorem dL_law_880 : decode cL_law 880 = .ok (.iload 12, 2) := by decide +kernel
theorem dL_law_882 : decode cL_law 882 = .ok (.iadd, 1) := by decide +kernel
theorem dL_law_883 : decode cL_law 883 = .ok (.if_icmp .ne 52, 3) := by decide +kernel
theorem dL_law_886 : decode cL_law 886 = .ok (.aload_n 1, 1) := by decide +kernel
theorem dL_law_887 : decode cL_law 887 = .ok (.iload 11, 2) := by decide +kernel
theorem dL_law_889 : decode cL_law 889 = .ok (.iconst 2, 1) := by decide +kernel
theorem dL_law_890 : decode cL_law 890 = .ok (.invokevirtual 89, 3) := by decide +kernel
theorem dL_law_893 : decode cL_law 893 = .ok (.iload 13, 2) := by decide +kernel
theorem dL_law_895 : decode cL_law 895 = .ok (.if_icmp .ne 40, 3) := by decide +kernel
theorem dL_law_898 : decode cL_law 898 = .ok (.aload_n 1, 1) := by decide +kernel
theorem dL_law_899 : decode cL_law 899 = .ok (.iload 11, 2) := by decide +kernel
theorem dL_law_901 : decode cL_law 901 = .ok (.iconst 1, 1) := by decide +kernel
theorem dL_law_902 : decode cL_law 902 = .ok (.iconst 0, 1) := by decide +kernel
theorem dL_law_903 : decode cL_law 903 = .ok (.invokevirtual 92, 3) := by decide +kernel
theorem dL_law_906 : decode cL_law 906 = .ok (.iload 13, 2) := by decide +kernel
theorem dL_law_908 : decode cL_law 908 = .ok (.sipush 250, 3) := by decide +kernel
theorem dL_law_911 : decode cL_law 911 = .ok (.if_icmp .le 16, 3) := by decide +kernel
theorem dL_law_914 : decode cL_law 914 = .ok (.sipush 200, 3) := by decide +kernel
theorem dL_law_917 : decode cL_law 917 = .ok (.iload 13, 2) := by decide +kernel
theorem dL_law_919 : decode cL_law 919 = .ok (.sipush 250, 3) := by decide +kernel
theorem dL_law_922 : decode cL_law 922 = .ok (.isub, 1) := by decide +kernel
theorem dL_law_923 : decode cL_law 923 = .ok (.imul, 1) := by decide +kernel
theorem dL_law_924 : decode cL_law 924 = .ok (.goto 4, 3) := by decide +kernel
theorem dL_law_927 : decode cL_law 927 = .ok (.iconst 0, 1) := by decide +kernel
theorem dL_law_928 : decode cL_law 928 = .ok (.if_icmp .ne 7, 3) := by decide +kernel
theorem dL_law_931 : decode cL_law 931 = .ok (.iconst 1, 1) := by decide +kernel
theorem dL_law_932 : decode cL_law 932 = .ok (.goto 4, 3) := by decide +kernel
theorem dL_law_935 : decode cL_law 935 = .ok (.iconst 0, 1) := by decide +kernel
theorem dL_law_936 : decode cL_law 936 = .ok (.istore_n 2, 1) := by decide +kernel
theorem dL_law_937 : decode cL_law 937 = .ok (.goto 638, 3) := by decide +kernel
theorem dL_law_940 : decode cL_law 940 = .ok (.iload 7, 2) := by decide +kernel
theorem dL_law_942 : decode cL_law 942 = .ok (.bipush 8, 2) := by decide +kernel
theorem dL_law_944 : decode cL_law 944 = .ok (.if_icmp .ne 123, 3) := by decide +kernel
theorem dL_law_947 : decode cL_law 947 = .ok (.aload_n 1, 1) := by decide +kernel
theorem dL_law_948 : decode cL_law 948 = .ok (.iload 8, 2) := by decide +kernel
theorem dL_law_950 : decode cL_law 950 = .ok (.iconst 0, 1) := by decide +kernel
theorem dL_law_951 : decode cL_law 951 = .ok (.invokevirtual 22, 3) := by decide +kernel
theorem dL_law_954 : decode cL_law 954 = .ok (.iconst 2, 1) := by decide +kernel
theorem dL_law_955 : decode cL_law 955 = .ok (.if_icmp .le 620, 3) := by decide +kernel
theorem dL_law_958 : decode cL_law 958 = .ok (.iload 9, 2) := by decide +kernel
theorem dL_law_960 : decode cL_law 960 = .ok (.bipush (-2), 2) := by decide +kernel
theorem dL_law_962 : decode cL_law 962 = .ok (.if_icmp .eq 613, 3) := by decide +kernel
theorem dL_law_965 : decode cL_law 965 = .ok (.iconst 1, 1) := by decide +kernel
theorem dL_law_966 : decode cL_law 966 = .ok (.iload 6, 2) := by decide +kernel
theorem dL_law_968 : decode cL_law 968 = .ok (.bipush 9, 2) := by decide +kernel
theorem dL_law_970 : decode cL_law 970 = .ok (.ishr, 1) := by decide +kernel
theorem dL_law_971 : decode cL_law 971 = .ok (.bipush 30, 2) := by decide +kernel
theorem dL_law_973 : decode cL_law 973 = .ok (.invokestatic 43, 3) := by decide +kernel
theorem dL_law_976 : decode cL_law 976 = .ok (.iadd, 1) := by decide +kernel
theorem dL_law_977 : decode cL_law 977 = .ok (.istore 11, 2) := by decide +kernel
theorem dL_law_979 : decode cL_law 979 = .ok (.aload_n 1, 1) := by decide +kernel
theorem dL_law_980 : decode cL_law 980 = .ok (.iload 8, 2) := by decide +kernel
theorem dL_law_982 : decode cL_law 982 = .ok (.iload 11, 2) := by decide +kernel
theorem dL_law_984 : decode cL_law 984 = .ok (.invokevirtual 95, 3) := by decide +kernel
theorem dL_law_987 : decode cL_law 987 = .ok (.pop, 1) := by decide +kernel
theorem dL_law_988 : decode cL_law 988 = .ok (.aload_n 1, 1) := by decide +kernel
theorem dL_law_989 : decode cL_law 989 = .ok (.iload 8, 2) := by decide +kernel
theorem dL_law_991 : decode cL_law 991 = .ok (.iload 11, 2) := by decide +kernel
theorem dL_law_993 : decode cL_law 993 = .ok (.invokevirtual 95, 3) := by decide +kernel
theorem dL_law_996 : decode cL_law 996 = .ok (.iload 11, 2) := by decide +kernel
theorem dL_law_998 : decode cL_law 998 = .ok (.if_icmp .ne 7, 3) := by decide +kernel
theorem dL_law_1001 : decode cL_law 1001 = .ok (.iconst 1, 1) := by decide +kernel
theorem dL_law_1002 : decode cL_law 1002 = .ok (.goto 4, 3) := by decide +kernel
theorem dL_law_1005 : decode cL_law 1005 = .ok (.iconst 0, 1) := by decide +kernel
theorem dL_law_1006 : decode cL_law 1006 = .ok (.istore_n 2, 1) := by decide +kernel
theorem dL_law_1007 : decode cL_law 1007 = .ok (.iload 10, 2) := by decide +kernel
theorem dL_law_1009 : decode cL_law 1009 = .ok (.ifCond .ne 55, 3) := by decide +kernel
theorem dL_law_1012 : decode cL_law 1012 = .ok (.iload_n 2, 1) := by decide +kernel
theorem dL_law_1013 : decode cL_law 1013 = .ok (.ifCond .eq 49, 3) := by decide +kernel
theorem dL_law_1016 : decode cL_law 1016 = .ok (.aload_n 1, 1) := by decide +kernel
theorem dL_law_1017 : decode cL_law 1017 = .ok (.iload 8, 2) := by decide +kernel
theorem dL_law_1019 : decode cL_law 1019 = .ok (.iconst 0, 1) := by decide +kernel
theorem dL_law_1020 : decode cL_law 1020 = .ok (.invokevirtual 98, 3) := by decide +kernel
theorem dL_law_1023 : decode cL_law 1023 = .ok (.iload 11, 2) := by decide +kernel
theorem dL_law_1025 : decode cL_law 1025 = .ok (.bipush 10, 2) := by decide +kernel
theorem dL_law_1027 : decode cL_law 1027 = .ok (.if_icmp .ge 7, 3) := by decide +kernel
theorem dL_law_1030 : decode cL_law 1030 = .ok (.iconst 0, 1) := by decide +kernel
theorem dL_law_1031 : decode cL_law 1031 = .ok (.goto 5, 3) := by decide +kernel
theorem dL_law_1034 : decode cL_law 1034 = .ok (.iload 11, 2) := by decide +kernel
theorem dL_law_1036 : decode cL_law 1036 = .ok (.if_icmp .ne 26, 3) := by decide +kernel
theorem dL_law_1039 : decode cL_law 1039 = .ok (.iload 11, 2) := by decide +kernel
theorem dL_law_1041 : decode cL_law 1041 = .ok (.bipush 10, 2) := by decide +kernel
theorem dL_law_1043 : decode cL_law 1043 = .ok (.if_icmp .lt 15, 3) := by decide +kernel
theorem dL_law_1046 : decode cL_law 1046 = .ok (.aload_n 1, 1) := by decide +kernel
theorem dL_law_1047 : decode cL_law 1047 = .ok (.iload 8, 2) := by decide +kernel
theorem dL_law_1049 : decode cL_law 1049 = .ok (.bipush 6, 2) := by decide +kernel
theorem dL_law_1051 : decode cL_law 1051 = .ok (.invokevirtual 22, 3) := by decide +kernel
theorem dL_law_1054 : decode cL_law 1054 = .ok (.iconst 1, 1) := by decide +kernel
theorem dL_law_1055 : decode cL_law 1055 = .ok (.if_icmp .ne 7, 3) := by decide +kernel
theorem dL_law_1058 : decode cL_law 1058 = .ok (.iconst 1, 1) := by decide +kernel
theorem dL_law_1059 : decode cL_law 1059 = .ok (.goto 4, 3) := by decide +kernel
theorem dL_law_1062 : decode cL_law 1062 = .ok (.iconst 0, 1) := by decide +kernel
theorem dL_law_1063 : decode cL_law 1063 = .ok (.istore_n 2, 1) := by decide +kernel
theorem dL_law_1064 : decode cL_law 1064 = .ok (.goto 511, 3) := by decide +kernel
theorem dL_law_1067 : decode cL_law 1067 = .ok (.iload 7, 2) := by decide +kernel
theorem dL_law_1069 : decode cL_law 1069 = .ok (.bipush 9, 2) := by decide +kernel
theorem dL_law_1071 : decode cL_law 1071 = .ok (.if_icmp .ne 112, 3) := by decide +kernel
theorem dL_law_1074 : decode cL_law 1074 = .ok (.iconst 0, 1) := by decide +kernel
theorem dL_law_1075 : decode cL_law 1075 = .ok (.istore 11, 2) := by decide +kernel
theorem dL_law_1077 : decode cL_law 1077 = .ok (.iconst 0, 1) := by decide +kernel
theorem dL_law_1078 : decode cL_law 1078 = .ok (.istore 12, 2) := by decide +kernel
theorem dL_law_1080 : decode cL_law 1080 = .ok (.iload 12, 2) := by decide +kernel
theorem dL_law_1082 : decode cL_law 1082 = .ok (.bipush 23, 2) := by decide +kernel
theorem dL_law_1084 : decode cL_law 1084 = .ok (.if_icmp .ge 60, 3) := by decide +kernel
theorem dL_law_1087 : decode cL_law 1087 = .ok (.iload 11, 2) := by decide +kernel
theorem dL_law_1089 : decode cL_law 1089 = .ok (.aload_n 1, 1) := by decide +kernel
theorem dL_law_1090 : decode cL_law 1090 = .ok (.iload 12, 2) := by decide +kernel
theorem dL_law_1092 : decode cL_law 1092 = .ok (.iconst 1, 1) := by decide +kernel
theorem dL_law_1093 : decode cL_law 1093 = .ok (.invokevirtual 22, 3) := by decide +kernel
theorem dL_law_1096 : decode cL_law 1096 = .ok (.iload 6, 2) := by decide +kernel
theorem dL_law_1098 : decode cL_law 1098 = .ok (.iconst 4, 1) := by decide +kernel
theorem dL_law_1099 : decode cL_law 1099 = .ok (.ishr, 1) := by decide +kernel
theorem dL_law_1100 : decode cL_law 1100 = .ok (.bipush 10, 2) := by decide +kernel
theorem dL_law_1102 : decode cL_law 1102 = .ok (.invokestatic 43, 3) := by decide +kernel
theorem dL_law_1105 : decode cL_law 1105 = .ok (.if_icmp .ne 29, 3) := by decide +kernel
theorem dL_law_1108 : decode cL_law 1108 = .ok (.aload_n 1, 1) := by decide +kernel
theorem dL_law_1109 : decode cL_law 1109 = .ok (.iload 12, 2) := by decide +kernel
theorem dL_law_1111 : decode cL_law 1111 = .ok (.bipush 7, 2) := by decide +kernel
theorem dL_law_1113 : decode cL_law 1113 = .ok (.invokevirtual 22, 3) := by decide +kernel
theorem dL_law_1116 : decode cL_law 1116 = .ok (.ifCond .ne 18, 3) := by decide +kernel
theorem dL_law_1119 : decode cL_law 1119 = .ok (.aload_n 1, 1) := by decide +kernel
theorem dL_law_1120 : decode cL_law 1120 = .ok (.iload 12, 2) := by decide +kernel
theorem dL_law_1122 : decode cL_law 1122 = .ok (.invokevirtual 18, 3) := by decide +kernel
theorem dL_law_1125 : decode cL_law 1125 = .ok (.bipush (-2), 2) := by decide +kernel
theorem dL_law_1127 : decode cL_law 1127 = .ok (.if_icmp .eq 7, 3) := by decide +kernel
theorem dL_law_1130 : decode cL_law 1130 = .ok (.iconst 1, 1) := by decide +kernel
theorem dL_law_1131 : decode cL_law 1131 = .ok (.goto 4, 3) := by decide +kernel
theorem dL_law_1134 : decode cL_law 1134 = .ok (.iconst 0, 1) := by decide +kernel
theorem dL_law_1135 : decode cL_law 1135 = .ok (.iadd, 1) := by decide +kernel
theorem dL_law_1136 : decode cL_law 1136 = .ok (.istore 11, 2) := by decide +kernel
theorem dL_law_1138 : decode cL_law 1138 = .ok (.iinc 12 1, 3) := by decide +kernel
theorem dL_law_1141 : decode cL_law 1141 = .ok (.goto (-61), 3) := by decide +kernel
theorem dL_law_1144 : decode cL_law 1144 = .ok (.iload 6, 2) := by decide +kernel
theorem dL_law_1146 : decode cL_law 1146 = .ok (.bipush 8, 2) := by decide +kernel
theorem dL_law_1148 : decode cL_law 1148 = .ok (.ishr, 1) := by decide +kernel
theorem dL_law_1149 : decode cL_law 1149 = .ok (.iconst 4, 1) := by decide +kernel
theorem dL_law_1150 : decode cL_law 1150 = .ok (.invokestatic 43, 3) := by decide +kernel
theorem dL_law_1153 : decode cL_law 1153 = .ok (.ifCond .gt 21, 3) := by decide +kernel
theorem dL_law_1156 : decode cL_law 1156 = .ok (.aload_n 1, 1) := by decide +kernel
theorem dL_law_1157 : decode cL_law 1157 = .ok (.iload 6, 2) := by decide +kernel
theorem dL_law_1159 : decode cL_law 1159 = .ok (.iconst 4, 1) := by decide +kernel
theorem dL_law_1160 : decode cL_law 1160 = .ok (.ishr, 1) := by decide +kernel
theorem dL_law_1161 : decode cL_law 1161 = .ok (.bipush 10, 2) := by decide +kernel
theorem dL_law_1163 : decode cL_law 1163 = .ok (.invokestatic 43, 3) := by decide +kernel
theorem dL_law_1166 : decode cL_law 1166 = .ok (.invokevirtual 102, 3) := by decide +kernel
theorem dL_law_1169 : decode cL_law 1169 = .ok (.iload 11, 2) := by decide +kernel
theorem dL_law_1171 : decode cL_law 1171 = .ok (.if_icmp .ne 7, 3) := by decide +kernel
theorem dL_law_1174 : decode cL_law 1174 = .ok (.iconst 1, 1) := by decide +kernel
theorem dL_law_1175 : decode cL_law 1175 = .ok (.goto 4, 3) := by decide +kernel
theorem dL_law_1178 : decode cL_law 1178 = .ok (.iconst 0, 1) := by decide +kernel
theorem dL_law_1179 : decode cL_law 1179 = .ok (.istore_n 2, 1) := by decide +kernel
theorem dL_law_1180 : decode cL_law 1180 = .ok (.goto 395, 3) := by decide +kernel
theorem dL_law_1183 : decode cL_law 1183 = .ok (.iload 7, 2) := by decide +kernel
theorem dL_law_1185 : decode cL_law 1185 = .ok (.bipush 10, 2) := by decide +kernel
theorem dL_law_1187 : decode cL_law 1187 = .ok (.if_icmp .ne 99, 3) := by decide +kernel
theorem dL_law_1190 : decode cL_law 1190 = .ok (.aload_n 1, 1) := by decide +kernel
theorem dL_law_1191 : decode cL_law 1191 = .ok (.iload 8, 2) := by decide +kernel
theorem dL_law_1193 : decode cL_law 1193 = .ok (.bipush 6, 2) := by decide +kernel
theorem dL_law_1195 : decode cL_law 1195 = .ok (.invokevirtual 22, 3) := by decide +kernel
theorem dL_law_1198 : decode cL_law 1198 = .ok (.iconst 1, 1) := by decide +kernel
theorem dL_law_1199 : decode cL_law 1199 = .ok (.if_icmp .ne 32, 3) := by decide +kernel
theorem dL_law_1202 : decode cL_law 1202 = .ok (.iload 10, 2) := by decide +kernel
theorem dL_law_1204 : decode cL_law 1204 = .ok (.ifCond .ne 27, 3) := by decide +kernel
theorem dL_law_1207 : decode cL_law 1207 = .ok (.aload_n 1, 1) := by decide +kernel
theorem dL_law_1208 : decode cL_law 1208 = .ok (.iload 8, 2) := by decide +kernel
theorem dL_law_1210 : decode cL_law 1210 = .ok (.invokevirtual 105, 3) := by decide +kernel
theorem dL_law_1213 : decode cL_law 1213 = .ok (.pop, 1) := by decide +kernel
theorem dL_law_1214 : decode cL_law 1214 = .ok (.aload_n 1, 1) := by decide +kernel
theorem dL_law_1215 : decode cL_law 1215 = .ok (.iload 8, 2) := by decide +kernel
theorem dL_law_1217 : decode cL_law 1217 = .ok (.bipush 6, 2) := by decide +kernel
theorem dL_law_1219 : decode cL_law 1219 = .ok (.invokevirtual 22, 3) := by decide +kernel
theorem dL_law_1222 : decode cL_law 1222 = .ok (.ifCond .ne 7, 3) := by decide +kernel
theorem dL_law_1225 : decode cL_law 1225 = .ok (.iconst 1, 1) := by decide +kernel
theorem dL_law_1226 : decode cL_law 1226 = .ok (.goto 4, 3) := by decide +kernel
theorem dL_law_1229 : decode cL_law 1229 = .ok (.iconst 0, 1) := by decide +kernel
theorem dL_law_1230 : decode cL_law 1230 = .ok (.istore_n 2, 1) := by decide +kernel
theorem dL_law_1231 : decode cL_law 1231 = .ok (.iload 9, 2) := by decide +kernel
theorem dL_law_1233 : decode cL_law 1233 = .ok (.iconst (-1), 1) := by decide +kernel
theorem dL_law_1234 : decode cL_law 1234 = .ok (.if_icmp .ne 341, 3) := by decide +kernel
theorem dL_law_1237 : decode cL_law 1237 = .ok (.iload 10, 2) := by decide +kernel
theorem dL_law_1239 : decode cL_law 1239 = .ok (.ifCond .ne 336, 3) := by decide +kernel
theorem dL_law_1242 : decode cL_law 1242 = .ok (.aload_n 1, 1) := by decide +kernel
theorem dL_law_1243 : decode cL_law 1243 = .ok (.iload 8, 2) := by decide +kernel
theorem dL_law_1245 : decode cL_law 1245 = .ok (.iconst 1, 1) := by decide +kernel
theorem dL_law_1246 : decode cL_law 1246 = .ok (.invokevirtual 98, 3) := by decide +kernel
theorem dL_law_1249 : decode cL_law 1249 = .ok (.pop, 1) := by decide +kernel
theorem dL_law_1250 : decode cL_law 1250 = .ok (.iload_n 2, 1) := by decide +kernel
theorem dL_law_1251 : decode cL_law 1251 = .ok (.ifCond .eq 30, 3) := by decide +kernel
theorem dL_law_1254 : decode cL_law 1254 = .ok (.aload_n 1, 1) := by decide +kernel
theorem dL_law_1255 : decode cL_law 1255 = .ok (.iload 8, 2) := by decide +kernel
theorem dL_law_1257 : decode cL_law 1257 = .ok (.bipush 7, 2) := by decide +kernel
theorem dL_law_1259 : decode cL_law 1259 = .ok (.invokevirtual 22, 3) := by decide +kernel
theorem dL_law_1262 : decode cL_law 1262 = .ok (.ifCond .eq 15, 3) := by decide +kernel
theorem dL_law_1265 : decode cL_law 1265 = .ok (.aload_n 1, 1) := by decide +kernel
theorem dL_law_1266 : decode cL_law 1266 = .ok (.iload 8, 2) := by decide +kernel
theorem dL_law_1268 : decode cL_law 1268 = .ok (.bipush 6, 2) := by decide +kernel
theorem dL_law_1270 : decode cL_law 1270 = .ok (.invokevirtual 22, 3) := by decide +kernel
theorem dL_law_1273 : decode cL_law 1273 = .ok (.iconst 1, 1) := by decide +kernel
theorem dL_law_1274 : decode cL_law 1274 = .ok (.if_icmp .ne 7, 3) := by decide +kernel
theorem dL_law_1277 : decode cL_law 1277 = .ok (.iconst 1, 1) := by decide +kernel
theorem dL_law_1278 : decode cL_law 1278 = .ok (.goto 4, 3) := by decide +kernel
theorem dL_law_1281 : decode cL_law 1281 = .ok (.iconst 0, 1) := by decide +kernel
theorem dL_law_1282 : decode cL_law 1282 = .ok (.istore_n 2, 1) := by decide +kernel
theorem dL_law_1283 : decode cL_law 1283 = .ok (.goto 292, 3) := by decide +kernel
theorem dL_law_1286 : decode cL_law 1286 = .ok (.iload 7, 2) := by decide +kernel
theorem dL_law_1288 : decode cL_law 1288 = .ok (.bipush 11, 2) := by decide +kernel
theorem dL_law_1290 : decode cL_law 1290 = .ok (.if_icmp .ne 159, 3) := by decide +kernel
theorem dL_law_1293 : decode cL_law 1293 = .ok (.bipush 7, 2) := by decide +kernel
theorem dL_law_1295 : decode cL_law 1295 = .ok (.iload 6, 2) := by decide +kernel
theorem dL_law_1297 : decode cL_law 1297 = .ok (.iconst 4, 1) := by decide +kernel
theorem dL_law_1298 : decode cL_law 1298 = .ok (.ishr, 1) := by decide +kernel
theorem dL_law_1299 : decode cL_law 1299 = .ok (.bipush 8, 2) := by decide +kernel
theorem dL_law_1301 : decode cL_law 1301 = .ok (.invokestatic 43, 3) := by decide +kernel
theorem dL_law_1304 : decode cL_law 1304 = .ok (.iadd, 1) := by decide +kernel
theorem dL_law_1305 : decode cL_law 1305 = .ok (.istore 11, 2) := by decide +kernel
theorem dL_law_1307 : decode cL_law 1307 = .ok (.aload_n 1, 1) := by decide +kernel
theorem dL_law_1308 : decode cL_law 1308 = .ok (.iload 11, 2) := by decide +kernel
theorem dL_law_1310 : decode cL_law 1310 = .ok (.iconst 4, 1) := by decide +kernel
theorem dL_law_1311 : decode cL_law 1311 = .ok (.invokevirtual 22, 3) := by decide +kernel
theorem dL_law_1314 : decode cL_law 1314 = .ok (.istore 12, 2) := by decide +kernel
theorem dL_law_1316 : decode cL_law 1316 = .ok (.iload 12, 2) := by decide +kernel
theorem dL_law_1318 : decode cL_law 1318 = .ok (.sipush 1100, 3) := by decide +kernel
theorem dL_law_1321 : decode cL_law 1321 = .ok (.if_icmp .lt 67, 3) := by decide +kernel
theorem dL_law_1324 : decode cL_law 1324 = .ok (.aload_n 1, 1) := by decide +kernel
theorem dL_law_1325 : decode cL_law 1325 = .ok (.aload_n 1, 1) := by decide +kernel
theorem dL_law_1326 : decode cL_law 1326 = .ok (.iload 11, 2) := by decide +kernel
theorem dL_law_1328 : decode cL_law 1328 = .ok (.invokevirtual 46, 3) := by decide +kernel
theorem dL_law_1331 : decode cL_law 1331 = .ok (.invokestatic 49, 3) := by decide +kernel
theorem dL_law_1334 : decode cL_law 1334 = .ok (.ifCond .ne 54, 3) := by decide +kernel
theorem dL_law_1337 : decode cL_law 1337 = .ok (.aload_n 1, 1) := by decide +kernel
theorem dL_law_1338 : decode cL_law 1338 = .ok (.iload 11, 2) := by decide +kernel
theorem dL_law_1340 : decode cL_law 1340 = .ok (.invokevirtual 18, 3) := by decide +kernel
theorem dL_law_1343 : decode cL_law 1343 = .ok (.bipush (-2), 2) := by decide +kernel
theorem dL_law_1345 : decode cL_law 1345 = .ok (.if_icmp .eq 43, 3) := by decide +kernel
theorem dL_law_1348 : decode cL_law 1348 = .ok (.aload_n 1, 1) := by decide +kernel
theorem dL_law_1349 : decode cL_law 1349 = .ok (.iload 11, 2) := by decide +kernel
theorem dL_law_1351 : decode cL_law 1351 = .ok (.invokevirtual 108, 3) := by decide +kernel
theorem dL_law_1354 : decode cL_law 1354 = .ok (.iload 12, 2) := by decide +kernel
theorem dL_law_1356 : decode cL_law 1356 = .ok (.if_icmp .ne 27, 3) := by decide +kernel
theorem dL_law_1359 : decode cL_law 1359 = .ok (.aload_n 1, 1) := by decide +kernel
theorem dL_law_1360 : decode cL_law 1360 = .ok (.iload 11, 2) := by decide +kernel
theorem dL_law_1362 : decode cL_law 1362 = .ok (.iconst 4, 1) := by decide +kernel
theorem dL_law_1363 : decode cL_law 1363 = .ok (.invokevirtual 22, 3) := by decide +kernel
theorem dL_law_1366 : decode cL_law 1366 = .ok (.ifCond .ne 17, 3) := by decide +kernel
theorem dL_law_1369 : decode cL_law 1369 = .ok (.aload_n 1, 1) := by decide +kernel
theorem dL_law_1370 : decode cL_law 1370 = .ok (.iload 11, 2) := by decide +kernel
theorem dL_law_1372 : decode cL_law 1372 = .ok (.iconst 5, 1) := by decide +kernel
theorem dL_law_1373 : decode cL_law 1373 = .ok (.invokevirtual 22, 3) := by decide +kernel
theorem dL_law_1376 : decode cL_law 1376 = .ok (.ifCond .ne 7, 3) := by decide +kernel
theorem dL_law_1379 : decode cL_law 1379 = .ok (.iconst 1, 1) := by decide +kernel
theorem dL_law_1380 : decode cL_law 1380 = .ok (.goto 4, 3) := by decide +kernel
theorem dL_law_1383 : decode cL_law 1383 = .ok (.iconst 0, 1) := by decide +kernel
theorem dL_law_1384 : decode cL_law 1384 = .ok (.istore_n 2, 1) := by decide +kernel
theorem dL_law_1385 : decode cL_law 1385 = .ok (.goto 61, 3) := by decide +kernel
theorem dL_law_1388 : decode cL_law 1388 = .ok (.aload_n 1, 1) := by decide +kernel
theorem dL_law_1389 : decode cL_law 1389 = .ok (.iload 11, 2) := by decide +kernel
theorem dL_law_1391 : decode cL_law 1391 = .ok (.iconst 5, 1) := by decide +kernel
theorem dL_law_1392 : decode cL_law 1392 = .ok (.invokevirtual 22, 3) := by decide +kernel
theorem dL_law_1395 : decode cL_law 1395 = .ok (.ifCond .ne 51, 3) := by decide +kernel
theorem dL_law_1398 : decode cL_law 1398 = .ok (.aload_n 1, 1) := by decide +kernel
theorem dL_law_1399 : decode cL_law 1399 = .ok (.iload 11, 2) := by decide +kernel
theorem dL_law_1401 : decode cL_law 1401 = .ok (.iconst 1, 1) := by decide +kernel
theorem dL_law_1402 : decode cL_law 1402 = .ok (.iload 6, 2) := by decide +kernel
theorem dL_law_1404 : decode cL_law 1404 = .ok (.bipush 9, 2) := by decide +kernel
theorem dL_law_1406 : decode cL_law 1406 = .ok (.ishr, 1) := by decide +kernel
theorem dL_law_1407 : decode cL_law 1407 = .ok (.sipush 999, 3) := by decide +kernel
theorem dL_law_1410 : decode cL_law 1410 = .ok (.invokestatic 43, 3) := by decide +kernel
theorem dL_law_1413 : decode cL_law 1413 = .ok (.iadd, 1) := by decide +kernel
theorem dL_law_1414 : decode cL_law 1414 = .ok (.invokevirtual 111, 3) := by decide +kernel
theorem dL_law_1417 : decode cL_law 1417 = .ok (.aload_n 1, 1) := by decide +kernel
theorem dL_law_1418 : decode cL_law 1418 = .ok (.iload 11, 2) := by decide +kernel
theorem dL_law_1420 : decode cL_law 1420 = .ok (.iconst 5, 1) := by decide +kernel
theorem dL_law_1421 : decode cL_law 1421 = .ok (.invokevirtual 22, 3) := by decide +kernel
theorem dL_law_1424 : decode cL_law 1424 = .ok (.iconst 1, 1) := by decide +kernel
theorem dL_law_1425 : decode cL_law 1425 = .ok (.iload 6, 2) := by decide +kernel
theorem dL_law_1427 : decode cL_law 1427 = .ok (.bipush 9, 2) := by decide +kernel
theorem dL_law_1429 : decode cL_law 1429 = .ok (.ishr, 1) := by decide +kernel
theorem dL_law_1430 : decode cL_law 1430 = .ok (.sipush 999, 3) := by decide +kernel
theorem dL_law_1433 : decode cL_law 1433 = .ok (.invokestatic 43, 3) := by decide +kernel
theorem dL_law_1436 : decode cL_law 1436 = .ok (.iadd, 1) := by decide +kernel
theorem dL_law_1437 : decode cL_law 1437 = .ok (.if_icmp .ne 7, 3) := by decide +kernel
theorem dL_law_1440 : decode cL_law 1440 = .ok (.iconst 1, 1) := by decide +kernel
theorem dL_law_1441 : decode cL_law 1441 = .ok (.goto 4, 3) := by decide +kernel
theorem dL_law_1444 : decode cL_law 1444 = .ok (.iconst 0, 1) := by decide +kernel
theorem dL_law_1445 : decode cL_law 1445 = .ok (.istore_n 2, 1) := by decide +kernel
theorem dL_law_1446 : decode cL_law 1446 = .ok (.goto 129, 3) := by decide +kernel
theorem dL_law_1449 : decode cL_law 1449 = .ok (.iload 6, 2) := by decide +kernel
theorem dL_law_1451 : decode cL_law 1451 = .ok (.iconst 4, 1) := by decide +kernel
theorem dL_law_1452 : decode cL_law 1452 = .ok (.ishr, 1) := by decide +kernel
theorem dL_law_1453 : decode cL_law 1453 = .ok (.iconst 2, 1) := by decide +kernel
theorem dL_law_1454 : decode cL_law 1454 = .ok (.invokestatic 43, 3) := by decide +kernel
theorem dL_law_1457 : decode cL_law 1457 = .ok (.bipush 19, 2) := by decide +kernel
theorem dL_law_1459 : decode cL_law 1459 = .ok (.imul, 1) := by decide +kernel
theorem dL_law_1460 : decode cL_law 1460 = .ok (.istore 11, 2) := by decide +kernel
theorem dL_law_1462 : decode cL_law 1462 = .ok (.aload_n 1, 1) := by decide +kernel
theorem dL_law_1463 : decode cL_law 1463 = .ok (.iconst 0, 1) := by decide +kernel
theorem dL_law_1464 : decode cL_law 1464 = .ok (.invokestatic 49, 3) := by decide +kernel
theorem dL_law_1467 : decode cL_law 1467 = .ok (.ifCond .ne 12, 3) := by decide +kernel
theorem dL_law_1470 : decode cL_law 1470 = .ok (.aload_n 1, 1) := by decide +kernel
theorem dL_law_1471 : decode cL_law 1471 = .ok (.bipush 19, 2) := by decide +kernel
theorem dL_law_1473 : decode cL_law 1473 = .ok (.invokestatic 49, 3) := by decide +kernel
theorem dL_law_1476 : decode cL_law 1476 = .ok (.ifCond .eq 7, 3) := by decide +kernel
theorem dL_law_1479 : decode cL_law 1479 = .ok (.iconst 1, 1) := by decide +kernel
theorem dL_law_1480 : decode cL_law 1480 = .ok (.goto 4, 3) := by decide +kernel
theorem dL_law_1483 : decode cL_law 1483 = .ok (.iconst 0, 1) := by decide +kernel
theorem dL_law_1484 : decode cL_law 1484 = .ok (.istore 12, 2) := by decide +kernel
theorem dL_law_1486 : decode cL_law 1486 = .ok (.iload 12, 2) := by decide +kernel
theorem dL_law_1488 : decode cL_law 1488 = .ok (.ifCond .eq 19, 3) := by decide +kernel
theorem dL_law_1491 : decode cL_law 1491 = .ok (.aload_n 1, 1) := by decide +kernel
theorem dL_law_1492 : decode cL_law 1492 = .ok (.invokevirtual 115, 3) := by decide +kernel
theorem dL_law_1495 : decode cL_law 1495 = .ok (.ifCond .lt 7, 3) := by decide +kernel
theorem dL_law_1498 : decode cL_law 1498 = .ok (.iconst 1, 1) := by decide +kernel
theorem dL_law_1499 : decode cL_law 1499 = .ok (.goto 4, 3) := by decide +kernel
theorem dL_law_1502 : decode cL_law 1502 = .ok (.iconst 0, 1) := by decide +kernel
theorem dL_law_1503 : decode cL_law 1503 = .ok (.istore_n 2, 1) := by decide +kernel
theorem dL_law_1504 : decode cL_law 1504 = .ok (.goto 71, 3) := by decide +kernel
theorem dL_law_1507 : decode cL_law 1507 = .ok (.iload 4, 2) := by decide +kernel
theorem dL_law_1509 : decode cL_law 1509 = .ok (.ifCond .ne 34, 3) := by decide +kernel
theorem dL_law_1512 : decode cL_law 1512 = .ok (.aload_n 1, 1) := by decide +kernel
theorem dL_law_1513 : decode cL_law 1513 = .ok (.iload 11, 2) := by decide +kernel
theorem dL_law_1515 : decode cL_law 1515 = .ok (.iload 6, 2) := by decide +kernel
theorem dL_law_1517 : decode cL_law 1517 = .ok (.iconst 5, 1) := by decide +kernel
theorem dL_law_1518 : decode cL_law 1518 = .ok (.ishr, 1) := by decide +kernel
theorem dL_law_1519 : decode cL_law 1519 = .ok (.bipush 50, 2) := by decide +kernel
theorem dL_law_1521 : decode cL_law 1521 = .ok (.invokestatic 43, 3) := by decide +kernel
theorem dL_law_1524 : decode cL_law 1524 = .ok (.invokevirtual 119, 3) := by decide +kernel
theorem dL_law_1527 : decode cL_law 1527 = .ok (.iconst 1, 1) := by decide +kernel
theorem dL_law_1528 : decode cL_law 1528 = .ok (.if_icmp .ne 7, 3) := by decide +kernel
theorem dL_law_1531 : decode cL_law 1531 = .ok (.iconst 1, 1) := by decide +kernel
theorem dL_law_1532 : decode cL_law 1532 = .ok (.goto 4, 3) := by decide +kernel
theorem dL_law_1535 : decode cL_law 1535 = .ok (.iconst 0, 1) := by decide +kernel
theorem dL_law_1536 : decode cL_law 1536 = .ok (.istore_n 2, 1) := by decide +kernel
theorem dL_law_1537 : decode cL_law 1537 = .ok (.iconst 1, 1) := by decide +kernel
theorem dL_law_1538 : decode cL_law 1538 = .ok (.istore 4, 2) := by decide +kernel
theorem dL_law_1540 : decode cL_law 1540 = .ok (.goto 35, 3) := by decide +kernel
theorem dL_law_1543 : decode cL_law 1543 = .ok (.aload_n 1, 1) := by decide +kernel
theorem dL_law_1544 : decode cL_law 1544 = .ok (.invokevirtual 122, 3) := by decide +kernel
theorem dL_law_1547 : decode cL_law 1547 = .ok (.ifCond .ne 23, 3) := by decide +kernel
theorem dL_law_1550 : decode cL_law 1550 = .ok (.aload_n 1, 1) := by decide +kernel
theorem dL_law_1551 : decode cL_law 1551 = .ok (.invokevirtual 125, 3) := by decide +kernel
theorem dL_law_1554 : decode cL_law 1554 = .ok (.ifCond .ne 16, 3) := by decide +kernel
theorem dL_law_1557 : decode cL_law 1557 = .ok (.aload_n 1, 1) := by decide +kernel
theorem dL_law_1558 : decode cL_law 1558 = .ok (.iconst 0, 1) := by decide +kernel
theorem dL_law_1559 : decode cL_law 1559 = .ok (.iconst 0, 1) := by decide +kernel
theorem dL_law_1560 : decode cL_law 1560 = .ok (.invokevirtual 25, 3) := by decide +kernel
theorem dL_law_1563 : decode cL_law 1563 = .ok (.ifCond .lt 7, 3) := by decide +kernel
theorem dL_law_1566 : decode cL_law 1566 = .ok (.iconst 1, 1) := by decide +kernel
theorem dL_law_1567 : decode cL_law 1567 = .ok (.goto 4, 3) := by decide +kernel
theorem dL_law_1570 : decode cL_law 1570 = .ok (.iconst 0, 1) := by decide +kernel
theorem dL_law_1571 : decode cL_law 1571 = .ok (.istore_n 2, 1) := by decide +kernel
theorem dL_law_1572 : decode cL_law 1572 = .ok (.iconst 0, 1) := by decide +kernel
theorem dL_law_1573 : decode cL_law 1573 = .ok (.istore 4, 2) := by decide +kernel
theorem dL_law_1575 : decode cL_law 1575 = .ok (.iconst 0, 1) := by decide +kernel
theorem dL_law_1576 : decode cL_law 1576 = .ok (.istore 11, 2) := by decide +kernel
theorem dL_law_1578 : decode cL_law 1578 = .ok (.iload 11, 2) := by decide +kernel
theorem dL_law_1580 : decode cL_law 1580 = .ok (.bipush 23, 2) := by decide +kernel
theorem dL_law_1582 : decode cL_law 1582 = .ok (.if_icmp .ge 107, 3) := by decide +kernel
theorem dL_law_1585 : decode cL_law 1585 = .ok (.iload_n 2, 1) := by decide +kernel
theorem dL_law_1586 : decode cL_law 1586 = .ok (.ifCond .eq 103, 3) := by decide +kernel
theorem dL_law_1589 : decode cL_law 1589 = .ok (.aload_n 1, 1) := by decide +kernel
theorem dL_law_1590 : decode cL_law 1590 = .ok (.iload 11, 2) := by decide +kernel
theorem dL_law_1592 : decode cL_law 1592 = .ok (.bipush 8, 2) := by decide +kernel
theorem dL_law_1594 : decode cL_law 1594 = .ok (.invokevirtual 22, 3) := by decide +kernel
theorem dL_law_1597 : decode cL_law 1597 = .ok (.istore 12, 2) := by decide +kernel
theorem dL_law_1599 : decode cL_law 1599 = .ok (.aload_n 1, 1) := by decide +kernel
theorem dL_law_1600 : decode cL_law 1600 = .ok (.iload 11, 2) := by decide +kernel
theorem dL_law_1602 : decode cL_law 1602 = .ok (.invokevirtual 18, 3) := by decide +kernel
theorem dL_law_1605 : decode cL_law 1605 = .ok (.iload 12, 2) := by decide +kernel
theorem dL_law_1607 : decode cL_law 1607 = .ok (.ifCond .ne 7, 3) := by decide +kernel
theorem dL_law_1610 : decode cL_law 1610 = .ok (.iconst (-1), 1) := by decide +kernel
theorem dL_law_1611 : decode cL_law 1611 = .ok (.goto 13, 3) := by decide +kernel
theorem dL_law_1614 : decode cL_law 1614 = .ok (.aload_n 1, 1) := by decide +kernel
theorem dL_law_1615 : decode cL_law 1615 = .ok (.iload 11, 2) := by decide +kernel
theorem dL_law_1617 : decode cL_law 1617 = .ok (.iload 12, 2) := by decide +kernel
theorem dL_law_1619 : decode cL_law 1619 = .ok (.iconst 1, 1) := by decide +kernel
theorem dL_law_1620 : decode cL_law 1620 = .ok (.isub, 1) := by decide +kernel
theorem dL_law_1621 : decode cL_law 1621 = .ok (.invokevirtual 128, 3) := by decide +kernel
theorem dL_law_1624 : decode cL_law 1624 = .ok (.if_icmp .ne 57, 3) := by decide +kernel
theorem dL_law_1627 : decode cL_law 1627 = .ok (.aload_n 1, 1) := by decide +kernel
theorem dL_law_1628 : decode cL_law 1628 = .ok (.iload 11, 2) := by decide +kernel
theorem dL_law_1630 : decode cL_law 1630 = .ok (.invokevirtual 18, 3) := by decide +kernel
theorem dL_law_1633 : decode cL_law 1633 = .ok (.ifCond .lt 44, 3) := by decide +kernel
theorem dL_law_1636 : decode cL_law 1636 = .ok (.aload_n 1, 1) := by decide +kernel
theorem dL_law_1637 : decode cL_law 1637 = .ok (.aload_n 1, 1) := by decide +kernel
theorem dL_law_1638 : decode cL_law 1638 = .ok (.iload 11, 2) := by decide +kernel
theorem dL_law_1640 : decode cL_law 1640 = .ok (.invokevirtual 18, 3) := by decide +kernel
theorem dL_law_1643 : decode cL_law 1643 = .ok (.iconst 0, 1) := by decide +kernel
theorem dL_law_1644 : decode cL_law 1644 = .ok (.invokevirtual 22, 3) := by decide +kernel
theorem dL_law_1647 : decode cL_law 1647 = .ok (.aload_n 1, 1) := by decide +kernel
theorem dL_law_1648 : decode cL_law 1648 = .ok (.iload 11, 2) := by decide +kernel
theorem dL_law_1650 : decode cL_law 1650 = .ok (.iconst 0, 1) := by decide +kernel
theorem dL_law_1651 : decode cL_law 1651 = .ok (.invokevirtual 22, 3) := by decide +kernel
theorem dL_law_1654 : decode cL_law 1654 = .ok (.invokestatic 80, 3) := by decide +kernel
theorem dL_law_1657 : decode cL_law 1657 = .ok (.aload_n 1, 1) := by decide +kernel
theorem dL_law_1658 : decode cL_law 1658 = .ok (.aload_n 1, 1) := by decide +kernel
theorem dL_law_1659 : decode cL_law 1659 = .ok (.iload 11, 2) := by decide +kernel
theorem dL_law_1661 : decode cL_law 1661 = .ok (.invokevirtual 18, 3) := by decide +kernel
theorem dL_law_1664 : decode cL_law 1664 = .ok (.aload_n 1, 1) := by decide +kernel
theorem dL_law_1665 : decode cL_law 1665 = .ok (.iload 11, 2) := by decide +kernel
theorem dL_law_1667 : decode cL_law 1667 = .ok (.iconst 0, 1) := by decide +kernel
theorem dL_law_1668 : decode cL_law 1668 = .ok (.invokevirtual 22, 3) := by decide +kernel
theorem dL_law_1671 : decode cL_law 1671 = .ok (.invokestatic 76, 3) := by decide +kernel
theorem dL_law_1674 : decode cL_law 1674 = .ok (.if_icmp .lt 7, 3) := by decide +kernel
theorem dL_law_1677 : decode cL_law 1677 = .ok (.iconst 1, 1) := by decide +kernel
theorem dL_law_1678 : decode cL_law 1678 = .ok (.goto 4, 3) := by decide +kernel
theorem dL_law_1681 : decode cL_law 1681 = .ok (.iconst 0, 1) := by decide +kernel
theorem dL_law_1682 : decode cL_law 1682 = .ok (.istore_n 2, 1) := by decide +kernel
theorem dL_law_1683 : decode cL_law 1683 = .ok (.iinc 11 1, 3) := by decide +kernel
theorem dL_law_1686 : decode cL_law 1686 = .ok (.goto (-108), 3) := by decide +kernel
theorem dL_law_1689 : decode cL_law 1689 = .ok (.iload_n 2, 1) := by decide +kernel
theorem dL_law_1690 : decode cL_law 1690 = .ok (.ifCond .eq 64, 3) := by decide +kernel
theorem dL_law_1693 : decode cL_law 1693 = .ok (.aload_n 1, 1) := by decide +kernel
theorem dL_law_1694 : decode cL_law 1694 = .ok (.iload 8, 2) := by decide +kernel
theorem dL_law_1696 : decode cL_law 1696 = .ok (.invokevirtual 131, 3) := by decide +kernel
theorem dL_law_1699 : decode cL_law 1699 = .ok (.aload_n 1, 1) := by decide +kernel
theorem dL_law_1700 : decode cL_law 1700 = .ok (.iload 8, 2) := by decide +kernel
theorem dL_law_1702 : decode cL_law 1702 = .ok (.iconst 3, 1) := by decide +kernel
theorem dL_law_1703 : decode cL_law 1703 = .ok (.invokevirtual 22, 3) := by decide +kernel
theorem dL_law_1706 : decode cL_law 1706 = .ok (.if_icmp .ne 48, 3) := by decide +kernel
theorem dL_law_1709 : decode cL_law 1709 = .ok (.aload_n 1, 1) := by decide +kernel
theorem dL_law_1710 : decode cL_law 1710 = .ok (.iconst 0, 1) := by decide +kernel
theorem dL_law_1711 : decode cL_law 1711 = .ok (.invokevirtual 53, 3) := by decide +kernel
theorem dL_law_1714 : decode cL_law 1714 = .ok (.ifCond .ne 7, 3) := by decide +kernel
theorem dL_law_1717 : decode cL_law 1717 = .ok (.iconst 1, 1) := by decide +kernel
theorem dL_law_1718 : decode cL_law 1718 = .ok (.goto 4, 3) := by decide +kernel
theorem dL_law_1721 : decode cL_law 1721 = .ok (.iconst 0, 1) := by decide +kernel
theorem dL_law_1722 : decode cL_law 1722 = .ok (.aload_n 1, 1) := by decide +kernel
theorem dL_law_1723 : decode cL_law 1723 = .ok (.iconst 0, 1) := by decide +kernel
theorem dL_law_1724 : decode cL_law 1724 = .ok (.invokevirtual 63, 3) := by decide +kernel
theorem dL_law_1727 : decode cL_law 1727 = .ok (.iconst (-1), 1) := by decide +kernel
theorem dL_law_1728 : decode cL_law 1728 = .ok (.if_icmp .ne 7, 3) := by decide +kernel
theorem dL_law_1731 : decode cL_law 1731 = .ok (.iconst 1, 1) := by decide +kernel
theorem dL_law_1732 : decode cL_law 1732 = .ok (.goto 4, 3) := by decide +kernel
theorem dL_law_1735 : decode cL_law 1735 = .ok (.iconst 0, 1) := by decide +kernel
theorem dL_law_1736 : decode cL_law 1736 = .ok (.if_icmp .ne 18, 3) := by decide +kernel
theorem dL_law_1739 : decode cL_law 1739 = .ok (.aload_n 1, 1) := by decide +kernel
theorem dL_law_1740 : decode cL_law 1740 = .ok (.invokevirtual 134, 3) := by decide +kernel
theorem dL_law_1743 : decode cL_law 1743 = .ok (.aload_n 1, 1) := by decide +kernel
theorem dL_law_1744 : decode cL_law 1744 = .ok (.invokevirtual 122, 3) := by decide +kernel
theorem dL_law_1747 : decode cL_law 1747 = .ok (.if_icmp .ne 7, 3) := by decide +kernel
theorem dL_law_1750 : decode cL_law 1750 = .ok (.iconst 1, 1) := by decide +kernel
theorem dL_law_1751 : decode cL_law 1751 = .ok (.goto 4, 3) := by decide +kernel
theorem dL_law_1754 : decode cL_law 1754 = .ok (.iconst 0, 1) := by decide +kernel
theorem dL_law_1755 : decode cL_law 1755 = .ok (.istore_n 2, 1) := by decide +kernel
theorem dL_law_1756 : decode cL_law 1756 = .ok (.iinc 5 1, 3) := by decide +kernel
theorem dL_law_1759 : decode cL_law 1759 = .ok (.goto (-1651), 3) := by decide +kernel
theorem dL_law_1762 : decode cL_law 1762 = .ok (.iload_n 2, 1) := by decide +kernel
theorem dL_law_1763 : decode cL_law 1763 = .ok (.ireturn, 1) := by decide +kernel
