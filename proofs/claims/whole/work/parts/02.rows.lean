theorem dX0_init_0 : decode cX0_init 0 = .ok (.aload_n 0, 1) := by decide +kernel
theorem dX0_init_1 : decode cX0_init 1 = .ok (.invokespecial 1, 3) := by decide +kernel
theorem dX0_init_4 : decode cX0_init 4 = .ok (.aload_n 0, 1) := by decide +kernel
theorem dX0_init_5 : decode cX0_init 5 = .ok (.iload_n 1, 1) := by decide +kernel
theorem dX0_init_6 : decode cX0_init 6 = .ok (.putfield 7, 3) := by decide +kernel
theorem dX0_init_9 : decode cX0_init 9 = .ok (.aload_n 0, 1) := by decide +kernel
theorem dX0_init_10 : decode cX0_init 10 = .ok (.iload_n 2, 1) := by decide +kernel
theorem dX0_init_11 : decode cX0_init 11 = .ok (.putfield 13, 3) := by decide +kernel
theorem dX0_init_14 : decode cX0_init 14 = .ok (.aload_n 0, 1) := by decide +kernel
theorem dX0_init_15 : decode cX0_init 15 = .ok (.iload_n 3, 1) := by decide +kernel
theorem dX0_init_16 : decode cX0_init 16 = .ok (.putfield 16, 3) := by decide +kernel
theorem dX0_init_19 : decode cX0_init 19 = .ok (.return_, 1) := by decide +kernel
theorem dX1_init_0 : decode cX1_init 0 = .ok (.aload_n 0, 1) := by decide +kernel
theorem dX1_init_1 : decode cX1_init 1 = .ok (.invokespecial 1, 3) := by decide +kernel
theorem dX1_init_4 : decode cX1_init 4 = .ok (.return_, 1) := by decide +kernel
theorem dX2_init_0 : decode cX2_init 0 = .ok (.aload_n 0, 1) := by decide +kernel
theorem dX2_init_1 : decode cX2_init 1 = .ok (.invokespecial 3, 3) := by decide +kernel
theorem dX2_init_4 : decode cX2_init 4 = .ok (.aload_n 0, 1) := by decide +kernel
theorem dX2_init_5 : decode cX2_init 5 = .ok (.new 9, 3) := by decide +kernel
theorem dX2_init_8 : decode cX2_init 8 = .ok (.dup, 1) := by decide +kernel
theorem dX2_init_9 : decode cX2_init 9 = .ok (.invokespecial 11, 3) := by decide +kernel
theorem dX2_init_12 : decode cX2_init 12 = .ok (.putfield 12, 3) := by decide +kernel
theorem dX2_init_15 : decode cX2_init 15 = .ok (.aload_n 0, 1) := by decide +kernel
theorem dX2_init_16 : decode cX2_init 16 = .ok (.bipush 60, 2) := by decide +kernel
theorem dX2_init_18 : decode cX2_init 18 = .ok (.newarray .int, 2) := by decide +kernel
theorem dX2_init_20 : decode cX2_init 20 = .ok (.putfield 18, 3) := by decide +kernel
theorem dX2_init_23 : decode cX2_init 23 = .ok (.return_, 1) := by decide +kernel
theorem dX2_addMove_0 : decode cX2_addMove 0 = .ok (.aload_n 0, 1) := by decide +kernel
theorem dX2_addMove_1 : decode cX2_addMove 1 = .ok (.new 22, 3) := by decide +kernel
theorem dX2_addMove_4 : decode cX2_addMove 4 = .ok (.dup, 1) := by decide +kernel
theorem dX2_addMove_5 : decode cX2_addMove 5 = .ok (.iload_n 1, 1) := by decide +kernel
theorem dX2_addMove_6 : decode cX2_addMove 6 = .ok (.iload_n 2, 1) := by decide +kernel
theorem dX2_addMove_7 : decode cX2_addMove 7 = .ok (.iconst 0, 1) := by decide +kernel
theorem dX2_addMove_8 : decode cX2_addMove 8 = .ok (.invokespecial 24, 3) := by decide +kernel
theorem dX2_addMove_11 : decode cX2_addMove 11 = .ok (.invokevirtual 27, 3) := by decide +kernel
theorem dX2_addMove_14 : decode cX2_addMove 14 = .ok (.return_, 1) := by decide +kernel
theorem dX2_addRun_0 : decode cX2_addRun 0 = .ok (.aload_n 0, 1) := by decide +kernel
theorem dX2_addRun_1 : decode cX2_addRun 1 = .ok (.new 22, 3) := by decide +kernel
theorem dX2_addRun_4 : decode cX2_addRun 4 = .ok (.dup, 1) := by decide +kernel
theorem dX2_addRun_5 : decode cX2_addRun 5 = .ok (.iload_n 1, 1) := by decide +kernel
theorem dX2_addRun_6 : decode cX2_addRun 6 = .ok (.iconst (-1), 1) := by decide +kernel
theorem dX2_addRun_7 : decode cX2_addRun 7 = .ok (.iload_n 2, 1) := by decide +kernel
theorem dX2_addRun_8 : decode cX2_addRun 8 = .ok (.invokespecial 24, 3) := by decide +kernel
theorem dX2_addRun_11 : decode cX2_addRun 11 = .ok (.invokevirtual 27, 3) := by decide +kernel
theorem dX2_addRun_14 : decode cX2_addRun 14 = .ok (.return_, 1) := by decide +kernel
theorem dX2_add_0 : decode cX2_add 0 = .ok (.aload_n 0, 1) := by decide +kernel
theorem dX2_add_1 : decode cX2_add 1 = .ok (.getfield 12, 3) := by decide +kernel
theorem dX2_add_4 : decode cX2_add 4 = .ok (.invokevirtual 31, 3) := by decide +kernel
theorem dX2_add_7 : decode cX2_add 7 = .ok (.sipush 512, 3) := by decide +kernel
theorem dX2_add_10 : decode cX2_add 10 = .ok (.if_icmp .ge 12, 3) := by decide +kernel
theorem dX2_add_13 : decode cX2_add 13 = .ok (.aload_n 0, 1) := by decide +kernel
theorem dX2_add_14 : decode cX2_add 14 = .ok (.getfield 12, 3) := by decide +kernel
theorem dX2_add_17 : decode cX2_add 17 = .ok (.aload_n 1, 1) := by decide +kernel
theorem dX2_add_18 : decode cX2_add 18 = .ok (.invokevirtual 35, 3) := by decide +kernel
theorem dX2_add_21 : decode cX2_add 21 = .ok (.pop, 1) := by decide +kernel
theorem dX2_add_22 : decode cX2_add 22 = .ok (.return_, 1) := by decide +kernel
theorem dX2_movesOf_0 : decode cX2_movesOf 0 = .ok (.iconst 0, 1) := by decide +kernel
theorem dX2_movesOf_1 : decode cX2_movesOf 1 = .ok (.istore_n 2, 1) := by decide +kernel
theorem dX2_movesOf_2 : decode cX2_movesOf 2 = .ok (.iconst 0, 1) := by decide +kernel
theorem dX2_movesOf_3 : decode cX2_movesOf 3 = .ok (.istore_n 3, 1) := by decide +kernel
theorem dX2_movesOf_4 : decode cX2_movesOf 4 = .ok (.iload_n 3, 1) := by decide +kernel
theorem dX2_movesOf_5 : decode cX2_movesOf 5 = .ok (.aload_n 0, 1) := by decide +kernel
theorem dX2_movesOf_6 : decode cX2_movesOf 6 = .ok (.getfield 12, 3) := by decide +kernel
theorem dX2_movesOf_9 : decode cX2_movesOf 9 = .ok (.invokevirtual 31, 3) := by decide +kernel
theorem dX2_movesOf_12 : decode cX2_movesOf 12 = .ok (.if_icmp .ge 30, 3) := by decide +kernel
theorem dX2_movesOf_15 : decode cX2_movesOf 15 = .ok (.aload_n 0, 1) := by decide +kernel
theorem dX2_movesOf_16 : decode cX2_movesOf 16 = .ok (.getfield 12, 3) := by decide +kernel
theorem dX2_movesOf_19 : decode cX2_movesOf 19 = .ok (.iload_n 3, 1) := by decide +kernel
theorem dX2_movesOf_20 : decode cX2_movesOf 20 = .ok (.invokevirtual 38, 3) := by decide +kernel
theorem dX2_movesOf_23 : decode cX2_movesOf 23 = .ok (.checkcast 22, 3) := by decide +kernel
theorem dX2_movesOf_26 : decode cX2_movesOf 26 = .ok (.iload_n 1, 1) := by decide +kernel
theorem dX2_movesOf_27 : decode cX2_movesOf 27 = .ok (.invokestatic 42, 3) := by decide +kernel
theorem dX2_movesOf_30 : decode cX2_movesOf 30 = .ok (.ifCond .eq 6, 3) := by decide +kernel
theorem dX2_movesOf_33 : decode cX2_movesOf 33 = .ok (.iinc 2 1, 3) := by decide +kernel
theorem dX2_movesOf_36 : decode cX2_movesOf 36 = .ok (.iinc 3 1, 3) := by decide +kernel
theorem dX2_movesOf_39 : decode cX2_movesOf 39 = .ok (.goto (-35), 3) := by decide +kernel
theorem dX2_movesOf_42 : decode cX2_movesOf 42 = .ok (.iload_n 2, 1) := by decide +kernel
theorem dX2_movesOf_43 : decode cX2_movesOf 43 = .ok (.ireturn, 1) := by decide +kernel
theorem dX2_moveOf_0 : decode cX2_moveOf 0 = .ok (.iconst 0, 1) := by decide +kernel
theorem dX2_moveOf_1 : decode cX2_moveOf 1 = .ok (.istore_n 3, 1) := by decide +kernel
theorem dX2_moveOf_2 : decode cX2_moveOf 2 = .ok (.iconst 0, 1) := by decide +kernel
theorem dX2_moveOf_3 : decode cX2_moveOf 3 = .ok (.istore 4, 2) := by decide +kernel
theorem dX2_moveOf_5 : decode cX2_moveOf 5 = .ok (.iload 4, 2) := by decide +kernel
theorem dX2_moveOf_7 : decode cX2_moveOf 7 = .ok (.aload_n 0, 1) := by decide +kernel
theorem dX2_moveOf_8 : decode cX2_moveOf 8 = .ok (.getfield 12, 3) := by decide +kernel
theorem dX2_moveOf_11 : decode cX2_moveOf 11 = .ok (.invokevirtual 31, 3) := by decide +kernel
theorem dX2_moveOf_14 : decode cX2_moveOf 14 = .ok (.if_icmp .ge 43, 3) := by decide +kernel
theorem dX2_moveOf_17 : decode cX2_moveOf 17 = .ok (.aload_n 0, 1) := by decide +kernel
theorem dX2_moveOf_18 : decode cX2_moveOf 18 = .ok (.getfield 12, 3) := by decide +kernel
theorem dX2_moveOf_21 : decode cX2_moveOf 21 = .ok (.iload 4, 2) := by decide +kernel
theorem dX2_moveOf_23 : decode cX2_moveOf 23 = .ok (.invokevirtual 38, 3) := by decide +kernel
theorem dX2_moveOf_26 : decode cX2_moveOf 26 = .ok (.checkcast 22, 3) := by decide +kernel
theorem dX2_moveOf_29 : decode cX2_moveOf 29 = .ok (.astore 5, 2) := by decide +kernel
theorem dX2_moveOf_31 : decode cX2_moveOf 31 = .ok (.aload 5, 2) := by decide +kernel
theorem dX2_moveOf_33 : decode cX2_moveOf 33 = .ok (.iload_n 1, 1) := by decide +kernel
theorem dX2_moveOf_34 : decode cX2_moveOf 34 = .ok (.invokestatic 42, 3) := by decide +kernel
theorem dX2_moveOf_37 : decode cX2_moveOf 37 = .ok (.ifCond .eq 14, 3) := by decide +kernel
theorem dX2_moveOf_40 : decode cX2_moveOf 40 = .ok (.iload_n 3, 1) := by decide +kernel
theorem dX2_moveOf_41 : decode cX2_moveOf 41 = .ok (.iload_n 2, 1) := by decide +kernel
theorem dX2_moveOf_42 : decode cX2_moveOf 42 = .ok (.if_icmp .ne 6, 3) := by decide +kernel
theorem dX2_moveOf_45 : decode cX2_moveOf 45 = .ok (.aload 5, 2) := by decide +kernel
theorem dX2_moveOf_47 : decode cX2_moveOf 47 = .ok (.areturn, 1) := by decide +kernel
theorem dX2_moveOf_48 : decode cX2_moveOf 48 = .ok (.iinc 3 1, 3) := by decide +kernel
theorem dX2_moveOf_51 : decode cX2_moveOf 51 = .ok (.iinc 4 1, 3) := by decide +kernel
theorem dX2_moveOf_54 : decode cX2_moveOf 54 = .ok (.goto (-49), 3) := by decide +kernel
theorem dX2_moveOf_57 : decode cX2_moveOf 57 = .ok (.aconst_null, 1) := by decide +kernel
theorem dX2_moveOf_58 : decode cX2_moveOf 58 = .ok (.areturn, 1) := by decide +kernel
theorem dX2_isMoveOf_0 : decode cX2_isMoveOf 0 = .ok (.aload_n 0, 1) := by decide +kernel
theorem dX2_isMoveOf_1 : decode cX2_isMoveOf 1 = .ok (.getfield 46, 3) := by decide +kernel
theorem dX2_isMoveOf_4 : decode cX2_isMoveOf 4 = .ok (.iload_n 1, 1) := by decide +kernel
theorem dX2_isMoveOf_5 : decode cX2_isMoveOf 5 = .ok (.if_icmp .ne 14, 3) := by decide +kernel
theorem dX2_isMoveOf_8 : decode cX2_isMoveOf 8 = .ok (.aload_n 0, 1) := by decide +kernel
theorem dX2_isMoveOf_9 : decode cX2_isMoveOf 9 = .ok (.getfield 50, 3) := by decide +kernel
theorem dX2_isMoveOf_12 : decode cX2_isMoveOf 12 = .ok (.ifCond .ne 7, 3) := by decide +kernel
theorem dX2_isMoveOf_15 : decode cX2_isMoveOf 15 = .ok (.iconst 1, 1) := by decide +kernel
theorem dX2_isMoveOf_16 : decode cX2_isMoveOf 16 = .ok (.goto 4, 3) := by decide +kernel
theorem dX2_isMoveOf_19 : decode cX2_isMoveOf 19 = .ok (.iconst 0, 1) := by decide +kernel
theorem dX2_isMoveOf_20 : decode cX2_isMoveOf 20 = .ok (.ireturn, 1) := by decide +kernel
theorem dX2_lifeOf_0 : decode cX2_lifeOf 0 = .ok (.iconst 0, 1) := by decide +kernel
theorem dX2_lifeOf_1 : decode cX2_lifeOf 1 = .ok (.istore_n 2, 1) := by decide +kernel
theorem dX2_lifeOf_2 : decode cX2_lifeOf 2 = .ok (.iload_n 2, 1) := by decide +kernel
theorem dX2_lifeOf_3 : decode cX2_lifeOf 3 = .ok (.aload_n 0, 1) := by decide +kernel
theorem dX2_lifeOf_4 : decode cX2_lifeOf 4 = .ok (.getfield 18, 3) := by decide +kernel
theorem dX2_lifeOf_7 : decode cX2_lifeOf 7 = .ok (.arraylength, 1) := by decide +kernel
theorem dX2_lifeOf_8 : decode cX2_lifeOf 8 = .ok (.if_icmp .ge 16, 3) := by decide +kernel
theorem dX2_lifeOf_11 : decode cX2_lifeOf 11 = .ok (.aload_n 0, 1) := by decide +kernel
theorem dX2_lifeOf_12 : decode cX2_lifeOf 12 = .ok (.getfield 18, 3) := by decide +kernel
theorem dX2_lifeOf_15 : decode cX2_lifeOf 15 = .ok (.iload_n 2, 1) := by decide +kernel
theorem dX2_lifeOf_16 : decode cX2_lifeOf 16 = .ok (.iconst (-1), 1) := by decide +kernel
theorem dX2_lifeOf_17 : decode cX2_lifeOf 17 = .ok (.iastore, 1) := by decide +kernel
theorem dX2_lifeOf_18 : decode cX2_lifeOf 18 = .ok (.iinc 2 1, 3) := by decide +kernel
theorem dX2_lifeOf_21 : decode cX2_lifeOf 21 = .ok (.goto (-19), 3) := by decide +kernel
theorem dX2_lifeOf_24 : decode cX2_lifeOf 24 = .ok (.iconst 0, 1) := by decide +kernel
theorem dX2_lifeOf_25 : decode cX2_lifeOf 25 = .ok (.istore_n 2, 1) := by decide +kernel
theorem dX2_lifeOf_26 : decode cX2_lifeOf 26 = .ok (.iconst 0, 1) := by decide +kernel
theorem dX2_lifeOf_27 : decode cX2_lifeOf 27 = .ok (.istore_n 3, 1) := by decide +kernel
theorem dX2_lifeOf_28 : decode cX2_lifeOf 28 = .ok (.iload_n 3, 1) := by decide +kernel
theorem dX2_lifeOf_29 : decode cX2_lifeOf 29 = .ok (.aload_n 0, 1) := by decide +kernel
theorem dX2_lifeOf_30 : decode cX2_lifeOf 30 = .ok (.getfield 12, 3) := by decide +kernel
theorem dX2_lifeOf_33 : decode cX2_lifeOf 33 = .ok (.invokevirtual 31, 3) := by decide +kernel
theorem dX2_lifeOf_36 : decode cX2_lifeOf 36 = .ok (.if_icmp .ge 85, 3) := by decide +kernel
theorem dX2_lifeOf_39 : decode cX2_lifeOf 39 = .ok (.aload_n 0, 1) := by decide +kernel
theorem dX2_lifeOf_40 : decode cX2_lifeOf 40 = .ok (.getfield 12, 3) := by decide +kernel
theorem dX2_lifeOf_43 : decode cX2_lifeOf 43 = .ok (.iload_n 3, 1) := by decide +kernel
theorem dX2_lifeOf_44 : decode cX2_lifeOf 44 = .ok (.invokevirtual 38, 3) := by decide +kernel
theorem dX2_lifeOf_47 : decode cX2_lifeOf 47 = .ok (.checkcast 22, 3) := by decide +kernel
theorem dX2_lifeOf_50 : decode cX2_lifeOf 50 = .ok (.astore 4, 2) := by decide +kernel
theorem dX2_lifeOf_52 : decode cX2_lifeOf 52 = .ok (.aload 4, 2) := by decide +kernel
theorem dX2_lifeOf_54 : decode cX2_lifeOf 54 = .ok (.getfield 50, 3) := by decide +kernel
theorem dX2_lifeOf_57 : decode cX2_lifeOf 57 = .ok (.ifCond .le 31, 3) := by decide +kernel
theorem dX2_lifeOf_60 : decode cX2_lifeOf 60 = .ok (.iload_n 2, 1) := by decide +kernel
theorem dX2_lifeOf_61 : decode cX2_lifeOf 61 = .ok (.aload_n 0, 1) := by decide +kernel
theorem dX2_lifeOf_62 : decode cX2_lifeOf 62 = .ok (.iload_n 1, 1) := by decide +kernel
theorem dX2_lifeOf_63 : decode cX2_lifeOf 63 = .ok (.invokevirtual 53, 3) := by decide +kernel
theorem dX2_lifeOf_66 : decode cX2_lifeOf 66 = .ok (.aload 4, 2) := by decide +kernel
theorem dX2_lifeOf_68 : decode cX2_lifeOf 68 = .ok (.getfield 46, 3) := by decide +kernel
theorem dX2_lifeOf_71 : decode cX2_lifeOf 71 = .ok (.if_icmp .ne 11, 3) := by decide +kernel
theorem dX2_lifeOf_74 : decode cX2_lifeOf 74 = .ok (.aload 4, 2) := by decide +kernel
theorem dX2_lifeOf_76 : decode cX2_lifeOf 76 = .ok (.getfield 50, 3) := by decide +kernel
theorem dX2_lifeOf_79 : decode cX2_lifeOf 79 = .ok (.goto 4, 3) := by decide +kernel
theorem dX2_lifeOf_82 : decode cX2_lifeOf 82 = .ok (.iconst 0, 1) := by decide +kernel
theorem dX2_lifeOf_83 : decode cX2_lifeOf 83 = .ok (.iadd, 1) := by decide +kernel
theorem dX2_lifeOf_84 : decode cX2_lifeOf 84 = .ok (.istore_n 2, 1) := by decide +kernel
theorem dX2_lifeOf_85 : decode cX2_lifeOf 85 = .ok (.goto 30, 3) := by decide +kernel
theorem dX2_lifeOf_88 : decode cX2_lifeOf 88 = .ok (.aload_n 0, 1) := by decide +kernel
theorem dX2_lifeOf_89 : decode cX2_lifeOf 89 = .ok (.aload 4, 2) := by decide +kernel
theorem dX2_lifeOf_91 : decode cX2_lifeOf 91 = .ok (.getfield 46, 3) := by decide +kernel
theorem dX2_lifeOf_94 : decode cX2_lifeOf 94 = .ok (.invokevirtual 57, 3) := by decide +kernel
theorem dX2_lifeOf_97 : decode cX2_lifeOf 97 = .ok (.ifCond .eq 18, 3) := by decide +kernel
theorem dX2_lifeOf_100 : decode cX2_lifeOf 100 = .ok (.aload_n 0, 1) := by decide +kernel
theorem dX2_lifeOf_101 : decode cX2_lifeOf 101 = .ok (.getfield 18, 3) := by decide +kernel
theorem dX2_lifeOf_104 : decode cX2_lifeOf 104 = .ok (.aload 4, 2) := by decide +kernel
theorem dX2_lifeOf_106 : decode cX2_lifeOf 106 = .ok (.getfield 46, 3) := by decide +kernel
theorem dX2_lifeOf_109 : decode cX2_lifeOf 109 = .ok (.aload 4, 2) := by decide +kernel
theorem dX2_lifeOf_111 : decode cX2_lifeOf 111 = .ok (.getfield 61, 3) := by decide +kernel
theorem dX2_lifeOf_114 : decode cX2_lifeOf 114 = .ok (.iastore, 1) := by decide +kernel
theorem dX2_lifeOf_115 : decode cX2_lifeOf 115 = .ok (.iinc 3 1, 3) := by decide +kernel
theorem dX2_lifeOf_118 : decode cX2_lifeOf 118 = .ok (.goto (-90), 3) := by decide +kernel
theorem dX2_lifeOf_121 : decode cX2_lifeOf 121 = .ok (.iload_n 2, 1) := by decide +kernel
theorem dX2_lifeOf_122 : decode cX2_lifeOf 122 = .ok (.ireturn, 1) := by decide +kernel
theorem dX2_topThen_0 : decode cX2_topThen 0 = .ok (.iload_n 1, 1) := by decide +kernel
theorem dX2_topThen_1 : decode cX2_topThen 1 = .ok (.istore_n 2, 1) := by decide +kernel
theorem dX2_topThen_2 : decode cX2_topThen 2 = .ok (.iconst 0, 1) := by decide +kernel
theorem dX2_topThen_3 : decode cX2_topThen 3 = .ok (.istore_n 3, 1) := by decide +kernel
theorem dX2_topThen_4 : decode cX2_topThen 4 = .ok (.iload_n 3, 1) := by decide +kernel
theorem dX2_topThen_5 : decode cX2_topThen 5 = .ok (.iconst 4, 1) := by decide +kernel
theorem dX2_topThen_6 : decode cX2_topThen 6 = .ok (.if_icmp .gt 33, 3) := by decide +kernel
theorem dX2_topThen_9 : decode cX2_topThen 9 = .ok (.aload_n 0, 1) := by decide +kernel
theorem dX2_topThen_10 : decode cX2_topThen 10 = .ok (.iload_n 2, 1) := by decide +kernel
theorem dX2_topThen_11 : decode cX2_topThen 11 = .ok (.invokevirtual 57, 3) := by decide +kernel
theorem dX2_topThen_14 : decode cX2_topThen 14 = .ok (.ifCond .eq 25, 3) := by decide +kernel
theorem dX2_topThen_17 : decode cX2_topThen 17 = .ok (.aload_n 0, 1) := by decide +kernel
theorem dX2_topThen_18 : decode cX2_topThen 18 = .ok (.getfield 18, 3) := by decide +kernel
theorem dX2_topThen_21 : decode cX2_topThen 21 = .ok (.iload_n 2, 1) := by decide +kernel
theorem dX2_topThen_22 : decode cX2_topThen 22 = .ok (.iaload, 1) := by decide +kernel
theorem dX2_topThen_23 : decode cX2_topThen 23 = .ok (.ifCond .lt 16, 3) := by decide +kernel
theorem dX2_topThen_26 : decode cX2_topThen 26 = .ok (.aload_n 0, 1) := by decide +kernel
theorem dX2_topThen_27 : decode cX2_topThen 27 = .ok (.getfield 18, 3) := by decide +kernel
theorem dX2_topThen_30 : decode cX2_topThen 30 = .ok (.iload_n 2, 1) := by decide +kernel
theorem dX2_topThen_31 : decode cX2_topThen 31 = .ok (.iaload, 1) := by decide +kernel
theorem dX2_topThen_32 : decode cX2_topThen 32 = .ok (.istore_n 2, 1) := by decide +kernel
theorem dX2_topThen_33 : decode cX2_topThen 33 = .ok (.iinc 3 1, 3) := by decide +kernel
theorem dX2_topThen_36 : decode cX2_topThen 36 = .ok (.goto (-32), 3) := by decide +kernel
theorem dX2_topThen_39 : decode cX2_topThen 39 = .ok (.iload_n 2, 1) := by decide +kernel
theorem dX2_topThen_40 : decode cX2_topThen 40 = .ok (.ireturn, 1) := by decide +kernel
theorem dX2_isPart_0 : decode cX2_isPart 0 = .ok (.iload_n 1, 1) := by decide +kernel
theorem dX2_isPart_1 : decode cX2_isPart 1 = .ok (.ifCond .lt 16, 3) := by decide +kernel
theorem dX2_isPart_4 : decode cX2_isPart 4 = .ok (.iload_n 1, 1) := by decide +kernel
theorem dX2_isPart_5 : decode cX2_isPart 5 = .ok (.aload_n 0, 1) := by decide +kernel
theorem dX2_isPart_6 : decode cX2_isPart 6 = .ok (.getfield 18, 3) := by decide +kernel
theorem dX2_isPart_9 : decode cX2_isPart 9 = .ok (.arraylength, 1) := by decide +kernel
theorem dX2_isPart_10 : decode cX2_isPart 10 = .ok (.if_icmp .ge 7, 3) := by decide +kernel
theorem dX2_isPart_13 : decode cX2_isPart 13 = .ok (.iconst 1, 1) := by decide +kernel
theorem dX2_isPart_14 : decode cX2_isPart 14 = .ok (.goto 4, 3) := by decide +kernel
theorem dX2_isPart_17 : decode cX2_isPart 17 = .ok (.iconst 0, 1) := by decide +kernel
theorem dX2_isPart_18 : decode cX2_isPart 18 = .ok (.ireturn, 1) := by decide +kernel
theorem dX3_init_0 : decode cX3_init 0 = .ok (.aload_n 0, 1) := by decide +kernel
theorem dX3_init_1 : decode cX3_init 1 = .ok (.invokespecial 3, 3) := by decide +kernel
theorem dX3_init_4 : decode cX3_init 4 = .ok (.aload_n 0, 1) := by decide +kernel
theorem dX3_init_5 : decode cX3_init 5 = .ok (.iconst (-1), 1) := by decide +kernel
theorem dX3_init_6 : decode cX3_init 6 = .ok (.putfield 9, 3) := by decide +kernel
theorem dX3_init_9 : decode cX3_init 9 = .ok (.aload_n 0, 1) := by decide +kernel
theorem dX3_init_10 : decode cX3_init 10 = .ok (.iload_n 1, 1) := by decide +kernel
theorem dX3_init_11 : decode cX3_init 11 = .ok (.putfield 15, 3) := by decide +kernel
theorem dX3_init_14 : decode cX3_init 14 = .ok (.aload_n 0, 1) := by decide +kernel
theorem dX3_init_15 : decode cX3_init 15 = .ok (.iload_n 2, 1) := by decide +kernel
theorem dX3_init_16 : decode cX3_init 16 = .ok (.putfield 18, 3) := by decide +kernel
theorem dX3_init_19 : decode cX3_init 19 = .ok (.aload_n 0, 1) := by decide +kernel
theorem dX3_init_20 : decode cX3_init 20 = .ok (.iload_n 3, 1) := by decide +kernel
theorem dX3_init_21 : decode cX3_init 21 = .ok (.putfield 21, 3) := by decide +kernel
theorem dX3_init_24 : decode cX3_init 24 = .ok (.aload_n 0, 1) := by decide +kernel
theorem dX3_init_25 : decode cX3_init 25 = .ok (.iload 4, 2) := by decide +kernel
theorem dX3_init_27 : decode cX3_init 27 = .ok (.putfield 24, 3) := by decide +kernel
theorem dX3_init_30 : decode cX3_init 30 = .ok (.aload_n 0, 1) := by decide +kernel
theorem dX3_init_31 : decode cX3_init 31 = .ok (.aload 5, 2) := by decide +kernel
theorem dX3_init_33 : decode cX3_init 33 = .ok (.putfield 27, 3) := by decide +kernel
theorem dX3_init_36 : decode cX3_init 36 = .ok (.aload_n 0, 1) := by decide +kernel
theorem dX3_init_37 : decode cX3_init 37 = .ok (.iload_n 2, 1) := by decide +kernel
theorem dX3_init_38 : decode cX3_init 38 = .ok (.iconst 3, 1) := by decide +kernel
theorem dX3_init_39 : decode cX3_init 39 = .ok (.if_icmp .ne 13, 3) := by decide +kernel
theorem dX3_init_42 : decode cX3_init 42 = .ok (.new 31, 3) := by decide +kernel
theorem dX3_init_45 : decode cX3_init 45 = .ok (.dup, 1) := by decide +kernel
theorem dX3_init_46 : decode cX3_init 46 = .ok (.invokespecial 33, 3) := by decide +kernel
theorem dX3_init_49 : decode cX3_init 49 = .ok (.goto 4, 3) := by decide +kernel
theorem dX3_init_52 : decode cX3_init 52 = .ok (.aconst_null, 1) := by decide +kernel
theorem dX3_init_53 : decode cX3_init 53 = .ok (.putfield 34, 3) := by decide +kernel
theorem dX3_init_56 : decode cX3_init 56 = .ok (.return_, 1) := by decide +kernel
theorem dX3_whereabouts_0 : decode cX3_whereabouts 0 = .ok (.aload_n 0, 1) := by decide +kernel
theorem dX3_whereabouts_1 : decode cX3_whereabouts 1 = .ok (.getfield 38, 3) := by decide +kernel
theorem dX3_whereabouts_4 : decode cX3_whereabouts 4 = .ok (.ifnull 11, 3) := by decide +kernel
theorem dX3_whereabouts_7 : decode cX3_whereabouts 7 = .ok (.aload_n 0, 1) := by decide +kernel
theorem dX3_whereabouts_8 : decode cX3_whereabouts 8 = .ok (.getfield 38, 3) := by decide +kernel
theorem dX3_whereabouts_11 : decode cX3_whereabouts 11 = .ok (.getfield 15, 3) := by decide +kernel
theorem dX3_whereabouts_14 : decode cX3_whereabouts 14 = .ok (.ireturn, 1) := by decide +kernel
theorem dX3_whereabouts_15 : decode cX3_whereabouts 15 = .ok (.aload_n 0, 1) := by decide +kernel
theorem dX3_whereabouts_16 : decode cX3_whereabouts 16 = .ok (.getfield 42, 3) := by decide +kernel
theorem dX3_whereabouts_19 : decode cX3_whereabouts 19 = .ok (.ifCond .eq 8, 3) := by decide +kernel
theorem dX3_whereabouts_22 : decode cX3_whereabouts 22 = .ok (.bipush (-2), 2) := by decide +kernel
theorem dX3_whereabouts_24 : decode cX3_whereabouts 24 = .ok (.goto 4, 3) := by decide +kernel
theorem dX3_whereabouts_27 : decode cX3_whereabouts 27 = .ok (.iconst (-1), 1) := by decide +kernel
theorem dX3_whereabouts_28 : decode cX3_whereabouts 28 = .ok (.ireturn, 1) := by decide +kernel
theorem dX3_isInStore_0 : decode cX3_isInStore 0 = .ok (.aload_n 0, 1) := by decide +kernel
theorem dX3_isInStore_1 : decode cX3_isInStore 1 = .ok (.getfield 38, 3) := by decide +kernel
theorem dX3_isInStore_4 : decode cX3_isInStore 4 = .ok (.ifnonnull 14, 3) := by decide +kernel
theorem dX3_isInStore_7 : decode cX3_isInStore 7 = .ok (.aload_n 0, 1) := by decide +kernel
theorem dX3_isInStore_8 : decode cX3_isInStore 8 = .ok (.getfield 42, 3) := by decide +kernel
theorem dX3_isInStore_11 : decode cX3_isInStore 11 = .ok (.ifCond .ne 7, 3) := by decide +kernel
theorem dX3_isInStore_14 : decode cX3_isInStore 14 = .ok (.iconst 1, 1) := by decide +kernel
theorem dX3_isInStore_15 : decode cX3_isInStore 15 = .ok (.goto 4, 3) := by decide +kernel
theorem dX3_isInStore_18 : decode cX3_isInStore 18 = .ok (.iconst 0, 1) := by decide +kernel
theorem dX3_isInStore_19 : decode cX3_isInStore 19 = .ok (.ireturn, 1) := by decide +kernel
theorem dX3_top_0 : decode cX3_top 0 = .ok (.aload_n 0, 1) := by decide +kernel
theorem dX3_top_1 : decode cX3_top 1 = .ok (.astore_n 1, 1) := by decide +kernel
theorem dX3_top_2 : decode cX3_top 2 = .ok (.iconst 0, 1) := by decide +kernel
theorem dX3_top_3 : decode cX3_top 3 = .ok (.istore_n 2, 1) := by decide +kernel
theorem dX3_top_4 : decode cX3_top 4 = .ok (.iload_n 2, 1) := by decide +kernel
theorem dX3_top_5 : decode cX3_top 5 = .ok (.iconst 4, 1) := by decide +kernel
theorem dX3_top_6 : decode cX3_top 6 = .ok (.if_icmp .gt 21, 3) := by decide +kernel
theorem dX3_top_9 : decode cX3_top 9 = .ok (.aload_n 1, 1) := by decide +kernel
theorem dX3_top_10 : decode cX3_top 10 = .ok (.getfield 38, 3) := by decide +kernel
theorem dX3_top_13 : decode cX3_top 13 = .ok (.ifnull 14, 3) := by decide +kernel
theorem dX3_top_16 : decode cX3_top 16 = .ok (.aload_n 1, 1) := by decide +kernel
theorem dX3_top_17 : decode cX3_top 17 = .ok (.getfield 38, 3) := by decide +kernel
theorem dX3_top_20 : decode cX3_top 20 = .ok (.astore_n 1, 1) := by decide +kernel
theorem dX3_top_21 : decode cX3_top 21 = .ok (.iinc 2 1, 3) := by decide +kernel
theorem dX3_top_24 : decode cX3_top 24 = .ok (.goto (-20), 3) := by decide +kernel
theorem dX3_top_27 : decode cX3_top 27 = .ok (.aload_n 1, 1) := by decide +kernel
theorem dX3_top_28 : decode cX3_top 28 = .ok (.areturn, 1) := by decide +kernel
theorem dX3_isWithin_0 : decode cX3_isWithin 0 = .ok (.aload_n 0, 1) := by decide +kernel
theorem dX3_isWithin_1 : decode cX3_isWithin 1 = .ok (.getfield 38, 3) := by decide +kernel
theorem dX3_isWithin_4 : decode cX3_isWithin 4 = .ok (.astore_n 2, 1) := by decide +kernel
theorem dX3_isWithin_5 : decode cX3_isWithin 5 = .ok (.iconst 0, 1) := by decide +kernel
theorem dX3_isWithin_6 : decode cX3_isWithin 6 = .ok (.istore_n 3, 1) := by decide +kernel
theorem dX3_isWithin_7 : decode cX3_isWithin 7 = .ok (.iload_n 3, 1) := by decide +kernel
theorem dX3_isWithin_8 : decode cX3_isWithin 8 = .ok (.iconst 4, 1) := by decide +kernel
theorem dX3_isWithin_9 : decode cX3_isWithin 9 = .ok (.if_icmp .gt 25, 3) := by decide +kernel
theorem dX3_isWithin_12 : decode cX3_isWithin 12 = .ok (.aload_n 2, 1) := by decide +kernel
theorem dX3_isWithin_13 : decode cX3_isWithin 13 = .ok (.ifnull 21, 3) := by decide +kernel
theorem dX3_isWithin_16 : decode cX3_isWithin 16 = .ok (.aload_n 2, 1) := by decide +kernel
theorem dX3_isWithin_17 : decode cX3_isWithin 17 = .ok (.aload_n 1, 1) := by decide +kernel
theorem dX3_isWithin_18 : decode cX3_isWithin 18 = .ok (.if_acmp .ne 5, 3) := by decide +kernel
theorem dX3_isWithin_21 : decode cX3_isWithin 21 = .ok (.iconst 1, 1) := by decide +kernel
theorem dX3_isWithin_22 : decode cX3_isWithin 22 = .ok (.ireturn, 1) := by decide +kernel
theorem dX3_isWithin_23 : decode cX3_isWithin 23 = .ok (.aload_n 2, 1) := by decide +kernel
theorem dX3_isWithin_24 : decode cX3_isWithin 24 = .ok (.getfield 38, 3) := by decide +kernel
theorem dX3_isWithin_27 : decode cX3_isWithin 27 = .ok (.astore_n 2, 1) := by decide +kernel
theorem dX3_isWithin_28 : decode cX3_isWithin 28 = .ok (.iinc 3 1, 3) := by decide +kernel
theorem dX3_isWithin_31 : decode cX3_isWithin 31 = .ok (.goto (-24), 3) := by decide +kernel
theorem dX3_isWithin_34 : decode cX3_isWithin 34 = .ok (.iconst 0, 1) := by decide +kernel
theorem dX3_isWithin_35 : decode cX3_isWithin 35 = .ok (.ireturn, 1) := by decide +kernel
theorem dX3_isBound_0 : decode cX3_isBound 0 = .ok (.aload_n 0, 1) := by decide +kernel
theorem dX3_isBound_1 : decode cX3_isBound 1 = .ok (.invokevirtual 46, 3) := by decide +kernel
theorem dX3_isBound_4 : decode cX3_isBound 4 = .ok (.getfield 9, 3) := by decide +kernel
theorem dX3_isBound_7 : decode cX3_isBound 7 = .ok (.iconst (-1), 1) := by decide +kernel
theorem dX3_isBound_8 : decode cX3_isBound 8 = .ok (.if_icmp .eq 7, 3) := by decide +kernel
theorem dX3_isBound_11 : decode cX3_isBound 11 = .ok (.iconst 1, 1) := by decide +kernel
theorem dX3_isBound_12 : decode cX3_isBound 12 = .ok (.goto 4, 3) := by decide +kernel
theorem dX3_isBound_15 : decode cX3_isBound 15 = .ok (.iconst 0, 1) := by decide +kernel
theorem dX3_isBound_16 : decode cX3_isBound 16 = .ok (.ireturn, 1) := by decide +kernel
theorem dX3_mayBeExamined_0 : decode cX3_mayBeExamined 0 = .ok (.aload_n 0, 1) := by decide +kernel
theorem dX3_mayBeExamined_1 : decode cX3_mayBeExamined 1 = .ok (.getfield 27, 3) := by decide +kernel
theorem dX3_mayBeExamined_4 : decode cX3_mayBeExamined 4 = .ok (.getfield 50, 3) := by decide +kernel
theorem dX3_mayBeExamined_7 : decode cX3_mayBeExamined 7 = .ok (.ifCond .le 29, 3) := by decide +kernel
theorem dX3_mayBeExamined_10 : decode cX3_mayBeExamined 10 = .ok (.aload_n 0, 1) := by decide +kernel
theorem dX3_mayBeExamined_11 : decode cX3_mayBeExamined 11 = .ok (.getfield 55, 3) := by decide +kernel
theorem dX3_mayBeExamined_14 : decode cX3_mayBeExamined 14 = .ok (.aload_n 0, 1) := by decide +kernel
theorem dX3_mayBeExamined_15 : decode cX3_mayBeExamined 15 = .ok (.getfield 27, 3) := by decide +kernel
theorem dX3_mayBeExamined_18 : decode cX3_mayBeExamined 18 = .ok (.getfield 50, 3) := by decide +kernel
theorem dX3_mayBeExamined_21 : decode cX3_mayBeExamined 21 = .ok (.aload_n 0, 1) := by decide +kernel
theorem dX3_mayBeExamined_22 : decode cX3_mayBeExamined 22 = .ok (.getfield 27, 3) := by decide +kernel
theorem dX3_mayBeExamined_25 : decode cX3_mayBeExamined 25 = .ok (.getfield 58, 3) := by decide +kernel
theorem dX3_mayBeExamined_28 : decode cX3_mayBeExamined 28 = .ok (.isub, 1) := by decide +kernel
theorem dX3_mayBeExamined_29 : decode cX3_mayBeExamined 29 = .ok (.if_icmp .lt 7, 3) := by decide +kernel
theorem dX3_mayBeExamined_32 : decode cX3_mayBeExamined 32 = .ok (.iconst 1, 1) := by decide +kernel
theorem dX3_mayBeExamined_33 : decode cX3_mayBeExamined 33 = .ok (.goto 4, 3) := by decide +kernel
theorem dX3_mayBeExamined_36 : decode cX3_mayBeExamined 36 = .ok (.iconst 0, 1) := by decide +kernel
theorem dX3_mayBeExamined_37 : decode cX3_mayBeExamined 37 = .ok (.ireturn, 1) := by decide +kernel
theorem dX3_isExaminationDue_0 : decode cX3_isExaminationDue 0 = .ok (.aload_n 0, 1) := by decide +kernel
theorem dX3_isExaminationDue_1 : decode cX3_isExaminationDue 1 = .ok (.getfield 27, 3) := by decide +kernel
theorem dX3_isExaminationDue_4 : decode cX3_isExaminationDue 4 = .ok (.getfield 50, 3) := by decide +kernel
theorem dX3_isExaminationDue_7 : decode cX3_isExaminationDue 7 = .ok (.ifCond .le 26, 3) := by decide +kernel
theorem dX3_isExaminationDue_10 : decode cX3_isExaminationDue 10 = .ok (.aload_n 0, 1) := by decide +kernel
theorem dX3_isExaminationDue_11 : decode cX3_isExaminationDue 11 = .ok (.getfield 55, 3) := by decide +kernel
theorem dX3_isExaminationDue_14 : decode cX3_isExaminationDue 14 = .ok (.aload_n 0, 1) := by decide +kernel
theorem dX3_isExaminationDue_15 : decode cX3_isExaminationDue 15 = .ok (.getfield 27, 3) := by decide +kernel
theorem dX3_isExaminationDue_18 : decode cX3_isExaminationDue 18 = .ok (.getfield 50, 3) := by decide +kernel
theorem dX3_isExaminationDue_21 : decode cX3_isExaminationDue 21 = .ok (.aload_n 0, 1) := by decide +kernel
theorem dX3_isExaminationDue_22 : decode cX3_isExaminationDue 22 = .ok (.getfield 61, 3) := by decide +kernel
theorem dX3_isExaminationDue_25 : decode cX3_isExaminationDue 25 = .ok (.iadd, 1) := by decide +kernel
theorem dX3_isExaminationDue_26 : decode cX3_isExaminationDue 26 = .ok (.if_icmp .le 7, 3) := by decide +kernel
theorem dX3_isExaminationDue_29 : decode cX3_isExaminationDue 29 = .ok (.iconst 1, 1) := by decide +kernel
theorem dX3_isExaminationDue_30 : decode cX3_isExaminationDue 30 = .ok (.goto 4, 3) := by decide +kernel
theorem dX3_isExaminationDue_33 : decode cX3_isExaminationDue 33 = .ok (.iconst 0, 1) := by decide +kernel
theorem dX3_isExaminationDue_34 : decode cX3_isExaminationDue 34 = .ok (.ireturn, 1) := by decide +kernel
theorem dX3_runs_0 : decode cX3_runs 0 = .ok (.aload_n 0, 1) := by decide +kernel
theorem dX3_runs_1 : decode cX3_runs 1 = .ok (.getfield 64, 3) := by decide +kernel
theorem dX3_runs_4 : decode cX3_runs 4 = .ok (.istore_n 3, 1) := by decide +kernel
theorem dX3_runs_5 : decode cX3_runs 5 = .ok (.aload_n 0, 1) := by decide +kernel
theorem dX3_runs_6 : decode cX3_runs 6 = .ok (.dup, 1) := by decide +kernel
theorem dX3_runs_7 : decode cX3_runs 7 = .ok (.getfield 64, 3) := by decide +kernel
theorem dX3_runs_10 : decode cX3_runs 10 = .ok (.iload_n 1, 1) := by decide +kernel
theorem dX3_runs_11 : decode cX3_runs 11 = .ok (.iadd, 1) := by decide +kernel
theorem dX3_runs_12 : decode cX3_runs 12 = .ok (.putfield 64, 3) := by decide +kernel
theorem dX3_runs_15 : decode cX3_runs 15 = .ok (.aload_n 0, 1) := by decide +kernel
theorem dX3_runs_16 : decode cX3_runs 16 = .ok (.dup, 1) := by decide +kernel
theorem dX3_runs_17 : decode cX3_runs 17 = .ok (.getfield 55, 3) := by decide +kernel
theorem dX3_runs_20 : decode cX3_runs 20 = .ok (.iload_n 1, 1) := by decide +kernel
theorem dX3_runs_21 : decode cX3_runs 21 = .ok (.iadd, 1) := by decide +kernel
theorem dX3_runs_22 : decode cX3_runs 22 = .ok (.putfield 55, 3) := by decide +kernel
theorem dX3_runs_25 : decode cX3_runs 25 = .ok (.aload_n 0, 1) := by decide +kernel
theorem dX3_runs_26 : decode cX3_runs 26 = .ok (.getfield 34, 3) := by decide +kernel
theorem dX3_runs_29 : decode cX3_runs 29 = .ok (.ifnull 23, 3) := by decide +kernel
theorem dX3_runs_32 : decode cX3_runs 32 = .ok (.aload_n 0, 1) := by decide +kernel
theorem dX3_runs_33 : decode cX3_runs 33 = .ok (.getfield 34, 3) := by decide +kernel
theorem dX3_runs_36 : decode cX3_runs 36 = .ok (.aload_n 0, 1) := by decide +kernel
theorem dX3_runs_37 : decode cX3_runs 37 = .ok (.getfield 64, 3) := by decide +kernel
theorem dX3_runs_40 : decode cX3_runs 40 = .ok (.bipush 100, 2) := by decide +kernel
theorem dX3_runs_42 : decode cX3_runs 42 = .ok (.idiv, 1) := by decide +kernel
theorem dX3_runs_43 : decode cX3_runs 43 = .ok (.iload_n 3, 1) := by decide +kernel
theorem dX3_runs_44 : decode cX3_runs 44 = .ok (.bipush 100, 2) := by decide +kernel
theorem dX3_runs_46 : decode cX3_runs 46 = .ok (.idiv, 1) := by decide +kernel
theorem dX3_runs_47 : decode cX3_runs 47 = .ok (.isub, 1) := by decide +kernel
theorem dX3_runs_48 : decode cX3_runs 48 = .ok (.iload_n 2, 1) := by decide +kernel
theorem dX3_runs_49 : decode cX3_runs 49 = .ok (.invokevirtual 67, 3) := by decide +kernel
theorem dX3_runs_52 : decode cX3_runs 52 = .ok (.aload_n 0, 1) := by decide +kernel
theorem dX3_runs_53 : decode cX3_runs 53 = .ok (.getfield 71, 3) := by decide +kernel
theorem dX3_runs_56 : decode cX3_runs 56 = .ok (.ifCond .le 31, 3) := by decide +kernel
theorem dX3_runs_59 : decode cX3_runs 59 = .ok (.aload_n 0, 1) := by decide +kernel
theorem dX3_runs_60 : decode cX3_runs 60 = .ok (.aload_n 0, 1) := by decide +kernel
theorem dX3_runs_61 : decode cX3_runs 61 = .ok (.getfield 64, 3) := by decide +kernel
theorem dX3_runs_64 : decode cX3_runs 64 = .ok (.aload_n 0, 1) := by decide +kernel
theorem dX3_runs_65 : decode cX3_runs 65 = .ok (.getfield 74, 3) := by decide +kernel
theorem dX3_runs_68 : decode cX3_runs 68 = .ok (.isub, 1) := by decide +kernel
theorem dX3_runs_69 : decode cX3_runs 69 = .ok (.sipush 500, 3) := by decide +kernel
theorem dX3_runs_72 : decode cX3_runs 72 = .ok (.idiv, 1) := by decide +kernel
theorem dX3_runs_73 : decode cX3_runs 73 = .ok (.iload_n 3, 1) := by decide +kernel
theorem dX3_runs_74 : decode cX3_runs 74 = .ok (.aload_n 0, 1) := by decide +kernel
theorem dX3_runs_75 : decode cX3_runs 75 = .ok (.getfield 74, 3) := by decide +kernel
theorem dX3_runs_78 : decode cX3_runs 78 = .ok (.isub, 1) := by decide +kernel
theorem dX3_runs_79 : decode cX3_runs 79 = .ok (.sipush 500, 3) := by decide +kernel
theorem dX3_runs_82 : decode cX3_runs 82 = .ok (.idiv, 1) := by decide +kernel
theorem dX3_runs_83 : decode cX3_runs 83 = .ok (.isub, 1) := by decide +kernel
theorem dX3_runs_84 : decode cX3_runs 84 = .ok (.invokevirtual 77, 3) := by decide +kernel
theorem dX3_runs_87 : decode cX3_runs 87 = .ok (.return_, 1) := by decide +kernel
theorem dX3_growFlaw_0 : decode cX3_growFlaw 0 = .ok (.iconst 0, 1) := by decide +kernel
theorem dX3_growFlaw_1 : decode cX3_growFlaw 1 = .ok (.istore_n 2, 1) := by decide +kernel
theorem dX3_growFlaw_2 : decode cX3_growFlaw 2 = .ok (.iload_n 2, 1) := by decide +kernel
theorem dX3_growFlaw_3 : decode cX3_growFlaw 3 = .ok (.iload_n 1, 1) := by decide +kernel
theorem dX3_growFlaw_4 : decode cX3_growFlaw 4 = .ok (.if_icmp .ge 27, 3) := by decide +kernel
theorem dX3_growFlaw_7 : decode cX3_growFlaw 7 = .ok (.aload_n 0, 1) := by decide +kernel
theorem dX3_growFlaw_8 : decode cX3_growFlaw 8 = .ok (.dup, 1) := by decide +kernel
theorem dX3_growFlaw_9 : decode cX3_growFlaw 9 = .ok (.getfield 71, 3) := by decide +kernel
theorem dX3_growFlaw_12 : decode cX3_growFlaw 12 = .ok (.iconst 1, 1) := by decide +kernel
theorem dX3_growFlaw_13 : decode cX3_growFlaw 13 = .ok (.aload_n 0, 1) := by decide +kernel
theorem dX3_growFlaw_14 : decode cX3_growFlaw 14 = .ok (.getfield 71, 3) := by decide +kernel
theorem dX3_growFlaw_17 : decode cX3_growFlaw 17 = .ok (.bipush 10, 2) := by decide +kernel
theorem dX3_growFlaw_19 : decode cX3_growFlaw 19 = .ok (.idiv, 1) := by decide +kernel
theorem dX3_growFlaw_20 : decode cX3_growFlaw 20 = .ok (.iadd, 1) := by decide +kernel
theorem dX3_growFlaw_21 : decode cX3_growFlaw 21 = .ok (.iadd, 1) := by decide +kernel
theorem dX3_growFlaw_22 : decode cX3_growFlaw 22 = .ok (.putfield 71, 3) := by decide +kernel
theorem dX3_growFlaw_25 : decode cX3_growFlaw 25 = .ok (.iinc 2 1, 3) := by decide +kernel
theorem dX3_growFlaw_28 : decode cX3_growFlaw 28 = .ok (.goto (-26), 3) := by decide +kernel
theorem dX3_growFlaw_31 : decode cX3_growFlaw 31 = .ok (.return_, 1) := by decide +kernel
theorem dX4_init_0 : decode cX4_init 0 = .ok (.aload_n 0, 1) := by decide +kernel
theorem dX4_init_1 : decode cX4_init 1 = .ok (.invokespecial 3, 3) := by decide +kernel
theorem dX4_init_4 : decode cX4_init 4 = .ok (.aload_n 0, 1) := by decide +kernel
theorem dX4_init_5 : decode cX4_init 5 = .ok (.sipush 9000, 3) := by decide +kernel
theorem dX4_init_8 : decode cX4_init 8 = .ok (.putfield 9, 3) := by decide +kernel
theorem dX4_init_11 : decode cX4_init 11 = .ok (.aload_n 0, 1) := by decide +kernel
theorem dX4_init_12 : decode cX4_init 12 = .ok (.sipush 300, 3) := by decide +kernel
theorem dX4_init_15 : decode cX4_init 15 = .ok (.putfield 15, 3) := by decide +kernel
theorem dX4_init_18 : decode cX4_init 18 = .ok (.aload_n 0, 1) := by decide +kernel
theorem dX4_init_19 : decode cX4_init 19 = .ok (.iconst (-1), 1) := by decide +kernel
theorem dX4_init_20 : decode cX4_init 20 = .ok (.putfield 18, 3) := by decide +kernel
theorem dX4_init_23 : decode cX4_init 23 = .ok (.return_, 1) := by decide +kernel
theorem dX4_wear_0 : decode cX4_wear 0 = .ok (.aload_n 0, 1) := by decide +kernel
theorem dX4_wear_1 : decode cX4_wear 1 = .ok (.dup, 1) := by decide +kernel
theorem dX4_wear_2 : decode cX4_wear 2 = .ok (.getfield 9, 3) := by decide +kernel
theorem dX4_wear_5 : decode cX4_wear 5 = .ok (.iload_n 1, 1) := by decide +kernel
theorem dX4_wear_6 : decode cX4_wear 6 = .ok (.isub, 1) := by decide +kernel
theorem dX4_wear_7 : decode cX4_wear 7 = .ok (.putfield 9, 3) := by decide +kernel
theorem dX4_wear_10 : decode cX4_wear 10 = .ok (.aload_n 0, 1) := by decide +kernel
theorem dX4_wear_11 : decode cX4_wear 11 = .ok (.dup, 1) := by decide +kernel
theorem dX4_wear_12 : decode cX4_wear 12 = .ok (.getfield 15, 3) := by decide +kernel
theorem dX4_wear_15 : decode cX4_wear 15 = .ok (.aload_n 0, 1) := by decide +kernel
theorem dX4_wear_16 : decode cX4_wear 16 = .ok (.getfield 21, 3) := by decide +kernel
theorem dX4_wear_19 : decode cX4_wear 19 = .ok (.sipush 200, 3) := by decide +kernel
theorem dX4_wear_22 : decode cX4_wear 22 = .ok (.idiv, 1) := by decide +kernel
theorem dX4_wear_23 : decode cX4_wear 23 = .ok (.iadd, 1) := by decide +kernel
theorem dX4_wear_24 : decode cX4_wear 24 = .ok (.putfield 15, 3) := by decide +kernel
theorem dX4_wear_27 : decode cX4_wear 27 = .ok (.aload_n 0, 1) := by decide +kernel
theorem dX4_wear_28 : decode cX4_wear 28 = .ok (.dup, 1) := by decide +kernel
theorem dX4_wear_29 : decode cX4_wear 29 = .ok (.getfield 21, 3) := by decide +kernel
theorem dX4_wear_32 : decode cX4_wear 32 = .ok (.iload_n 2, 1) := by decide +kernel
theorem dX4_wear_33 : decode cX4_wear 33 = .ok (.iadd, 1) := by decide +kernel
theorem dX4_wear_34 : decode cX4_wear 34 = .ok (.putfield 21, 3) := by decide +kernel
theorem dX4_wear_37 : decode cX4_wear 37 = .ok (.aload_n 0, 1) := by decide +kernel
theorem dX4_wear_38 : decode cX4_wear 38 = .ok (.dup, 1) := by decide +kernel
theorem dX4_wear_39 : decode cX4_wear 39 = .ok (.getfield 15, 3) := by decide +kernel
theorem dX4_wear_42 : decode cX4_wear 42 = .ok (.aload_n 0, 1) := by decide +kernel
theorem dX4_wear_43 : decode cX4_wear 43 = .ok (.getfield 21, 3) := by decide +kernel
theorem dX4_wear_46 : decode cX4_wear 46 = .ok (.sipush 200, 3) := by decide +kernel
theorem dX4_wear_49 : decode cX4_wear 49 = .ok (.idiv, 1) := by decide +kernel
theorem dX4_wear_50 : decode cX4_wear 50 = .ok (.isub, 1) := by decide +kernel
theorem dX4_wear_51 : decode cX4_wear 51 = .ok (.putfield 15, 3) := by decide +kernel
theorem dX4_wear_54 : decode cX4_wear 54 = .ok (.return_, 1) := by decide +kernel
theorem dX4_renewFlange_0 : decode cX4_renewFlange 0 = .ok (.aload_n 0, 1) := by decide +kernel
theorem dX4_renewFlange_1 : decode cX4_renewFlange 1 = .ok (.dup, 1) := by decide +kernel
theorem dX4_renewFlange_2 : decode cX4_renewFlange 2 = .ok (.getfield 9, 3) := by decide +kernel
theorem dX4_renewFlange_5 : decode cX4_renewFlange 5 = .ok (.iconst 2, 1) := by decide +kernel
theorem dX4_renewFlange_6 : decode cX4_renewFlange 6 = .ok (.sipush 300, 3) := by decide +kernel
theorem dX4_renewFlange_9 : decode cX4_renewFlange 9 = .ok (.aload_n 0, 1) := by decide +kernel
theorem dX4_renewFlange_10 : decode cX4_renewFlange 10 = .ok (.getfield 15, 3) := by decide +kernel
theorem dX4_renewFlange_13 : decode cX4_renewFlange 13 = .ok (.isub, 1) := by decide +kernel
theorem dX4_renewFlange_14 : decode cX4_renewFlange 14 = .ok (.imul, 1) := by decide +kernel
theorem dX4_renewFlange_15 : decode cX4_renewFlange 15 = .ok (.isub, 1) := by decide +kernel
theorem dX4_renewFlange_16 : decode cX4_renewFlange 16 = .ok (.putfield 9, 3) := by decide +kernel
theorem dX4_renewFlange_19 : decode cX4_renewFlange 19 = .ok (.aload_n 0, 1) := by decide +kernel
theorem dX4_renewFlange_20 : decode cX4_renewFlange 20 = .ok (.sipush 300, 3) := by decide +kernel
theorem dX4_renewFlange_23 : decode cX4_renewFlange 23 = .ok (.putfield 15, 3) := by decide +kernel
theorem dX4_renewFlange_26 : decode cX4_renewFlange 26 = .ok (.return_, 1) := by decide +kernel
theorem dX4_isWorn_0 : decode cX4_isWorn 0 = .ok (.aload_n 0, 1) := by decide +kernel
theorem dX4_isWorn_1 : decode cX4_isWorn 1 = .ok (.getfield 9, 3) := by decide +kernel
theorem dX4_isWorn_4 : decode cX4_isWorn 4 = .ok (.sipush 8500, 3) := by decide +kernel
theorem dX4_isWorn_7 : decode cX4_isWorn 7 = .ok (.if_icmp .lt 13, 3) := by decide +kernel
theorem dX4_isWorn_10 : decode cX4_isWorn 10 = .ok (.aload_n 0, 1) := by decide +kernel
theorem dX4_isWorn_11 : decode cX4_isWorn 11 = .ok (.getfield 15, 3) := by decide +kernel
theorem dX4_isWorn_14 : decode cX4_isWorn 14 = .ok (.sipush 250, 3) := by decide +kernel
theorem dX4_isWorn_17 : decode cX4_isWorn 17 = .ok (.if_icmp .ge 7, 3) := by decide +kernel
theorem dX4_isWorn_20 : decode cX4_isWorn 20 = .ok (.iconst 1, 1) := by decide +kernel
theorem dX4_isWorn_21 : decode cX4_isWorn 21 = .ok (.goto 4, 3) := by decide +kernel
theorem dX4_isWorn_24 : decode cX4_isWorn 24 = .ok (.iconst 0, 1) := by decide +kernel
theorem dX4_isWorn_25 : decode cX4_isWorn 25 = .ok (.ireturn, 1) := by decide +kernel
theorem dX5_init_0 : decode cX5_init 0 = .ok (.aload_n 0, 1) := by decide +kernel
theorem dX5_init_1 : decode cX5_init 1 = .ok (.invokespecial 3, 3) := by decide +kernel
theorem dX5_init_4 : decode cX5_init 4 = .ok (.aload_n 0, 1) := by decide +kernel
theorem dX5_init_5 : decode cX5_init 5 = .ok (.new 9, 3) := by decide +kernel
theorem dX5_init_8 : decode cX5_init 8 = .ok (.dup, 1) := by decide +kernel
theorem dX5_init_9 : decode cX5_init 9 = .ok (.invokespecial 11, 3) := by decide +kernel
theorem dX5_init_12 : decode cX5_init 12 = .ok (.putfield 12, 3) := by decide +kernel
theorem dX5_init_15 : decode cX5_init 15 = .ok (.aload_n 0, 1) := by decide +kernel
theorem dX5_init_16 : decode cX5_init 16 = .ok (.new 9, 3) := by decide +kernel
theorem dX5_init_19 : decode cX5_init 19 = .ok (.dup, 1) := by decide +kernel
theorem dX5_init_20 : decode cX5_init 20 = .ok (.invokespecial 11, 3) := by decide +kernel
theorem dX5_init_23 : decode cX5_init 23 = .ok (.putfield 18, 3) := by decide +kernel
theorem dX5_init_26 : decode cX5_init 26 = .ok (.aload_n 0, 1) := by decide +kernel
theorem dX5_init_27 : decode cX5_init 27 = .ok (.bipush 8, 2) := by decide +kernel
theorem dX5_init_29 : decode cX5_init 29 = .ok (.newarray .int, 2) := by decide +kernel
theorem dX5_init_31 : decode cX5_init 31 = .ok (.putfield 21, 3) := by decide +kernel
theorem dX5_init_34 : decode cX5_init 34 = .ok (.return_, 1) := by decide +kernel
theorem dX5_isWaiting_0 : decode cX5_isWaiting 0 = .ok (.iconst 0, 1) := by decide +kernel
theorem dX5_isWaiting_1 : decode cX5_isWaiting 1 = .ok (.istore_n 2, 1) := by decide +kernel
theorem dX5_isWaiting_2 : decode cX5_isWaiting 2 = .ok (.iload_n 2, 1) := by decide +kernel
theorem dX5_isWaiting_3 : decode cX5_isWaiting 3 = .ok (.aload_n 0, 1) := by decide +kernel
theorem dX5_isWaiting_4 : decode cX5_isWaiting 4 = .ok (.getfield 12, 3) := by decide +kernel
theorem dX5_isWaiting_7 : decode cX5_isWaiting 7 = .ok (.invokevirtual 25, 3) := by decide +kernel
theorem dX5_isWaiting_10 : decode cX5_isWaiting 10 = .ok (.if_icmp .ge 23, 3) := by decide +kernel
theorem dX5_isWaiting_13 : decode cX5_isWaiting 13 = .ok (.aload_n 0, 1) := by decide +kernel
theorem dX5_isWaiting_14 : decode cX5_isWaiting 14 = .ok (.getfield 12, 3) := by decide +kernel
theorem dX5_isWaiting_17 : decode cX5_isWaiting 17 = .ok (.iload_n 2, 1) := by decide +kernel
theorem dX5_isWaiting_18 : decode cX5_isWaiting 18 = .ok (.invokevirtual 29, 3) := by decide +kernel
theorem dX5_isWaiting_21 : decode cX5_isWaiting 21 = .ok (.aload_n 1, 1) := by decide +kernel
theorem dX5_isWaiting_22 : decode cX5_isWaiting 22 = .ok (.if_acmp .ne 5, 3) := by decide +kernel
theorem dX5_isWaiting_25 : decode cX5_isWaiting 25 = .ok (.iconst 1, 1) := by decide +kernel
theorem dX5_isWaiting_26 : decode cX5_isWaiting 26 = .ok (.ireturn, 1) := by decide +kernel
theorem dX5_isWaiting_27 : decode cX5_isWaiting 27 = .ok (.iinc 2 1, 3) := by decide +kernel
theorem dX5_isWaiting_30 : decode cX5_isWaiting 30 = .ok (.goto (-28), 3) := by decide +kernel
theorem dX5_isWaiting_33 : decode cX5_isWaiting 33 = .ok (.iconst 0, 1) := by decide +kernel
theorem dX5_isWaiting_34 : decode cX5_isWaiting 34 = .ok (.ireturn, 1) := by decide +kernel
theorem dX5_isTaken_0 : decode cX5_isTaken 0 = .ok (.iconst 0, 1) := by decide +kernel
theorem dX5_isTaken_1 : decode cX5_isTaken 1 = .ok (.istore_n 2, 1) := by decide +kernel
theorem dX5_isTaken_2 : decode cX5_isTaken 2 = .ok (.iload_n 2, 1) := by decide +kernel
theorem dX5_isTaken_3 : decode cX5_isTaken 3 = .ok (.aload_n 0, 1) := by decide +kernel
theorem dX5_isTaken_4 : decode cX5_isTaken 4 = .ok (.getfield 12, 3) := by decide +kernel
theorem dX5_isTaken_7 : decode cX5_isTaken 7 = .ok (.invokevirtual 25, 3) := by decide +kernel
theorem dX5_isTaken_10 : decode cX5_isTaken 10 = .ok (.if_icmp .ge 29, 3) := by decide +kernel
theorem dX5_isTaken_13 : decode cX5_isTaken 13 = .ok (.aload_n 0, 1) := by decide +kernel
theorem dX5_isTaken_14 : decode cX5_isTaken 14 = .ok (.getfield 12, 3) := by decide +kernel
theorem dX5_isTaken_17 : decode cX5_isTaken 17 = .ok (.iload_n 2, 1) := by decide +kernel
theorem dX5_isTaken_18 : decode cX5_isTaken 18 = .ok (.invokevirtual 29, 3) := by decide +kernel
theorem dX5_isTaken_21 : decode cX5_isTaken 21 = .ok (.checkcast 33, 3) := by decide +kernel
theorem dX5_isTaken_24 : decode cX5_isTaken 24 = .ok (.getfield 35, 3) := by decide +kernel
theorem dX5_isTaken_27 : decode cX5_isTaken 27 = .ok (.iload_n 1, 1) := by decide +kernel
theorem dX5_isTaken_28 : decode cX5_isTaken 28 = .ok (.if_icmp .ne 5, 3) := by decide +kernel
theorem dX5_isTaken_31 : decode cX5_isTaken 31 = .ok (.iconst 1, 1) := by decide +kernel
theorem dX5_isTaken_32 : decode cX5_isTaken 32 = .ok (.ireturn, 1) := by decide +kernel
theorem dX5_isTaken_33 : decode cX5_isTaken 33 = .ok (.iinc 2 1, 3) := by decide +kernel
theorem dX5_isTaken_36 : decode cX5_isTaken 36 = .ok (.goto (-34), 3) := by decide +kernel
theorem dX5_isTaken_39 : decode cX5_isTaken 39 = .ok (.iconst 0, 1) := by decide +kernel
theorem dX5_isTaken_40 : decode cX5_isTaken 40 = .ok (.ireturn, 1) := by decide +kernel
theorem dX5_makePlan_0 : decode cX5_makePlan 0 = .ok (.aload_n 0, 1) := by decide +kernel
theorem dX5_makePlan_1 : decode cX5_makePlan 1 = .ok (.invokevirtual 39, 3) := by decide +kernel
theorem dX5_makePlan_4 : decode cX5_makePlan 4 = .ok (.aload_n 0, 1) := by decide +kernel
theorem dX5_makePlan_5 : decode cX5_makePlan 5 = .ok (.sipush 1000, 3) := by decide +kernel
theorem dX5_makePlan_8 : decode cX5_makePlan 8 = .ok (.putfield 42, 3) := by decide +kernel
theorem dX5_makePlan_11 : decode cX5_makePlan 11 = .ok (.aload_n 0, 1) := by decide +kernel
theorem dX5_makePlan_12 : decode cX5_makePlan 12 = .ok (.iconst 0, 1) := by decide +kernel
theorem dX5_makePlan_13 : decode cX5_makePlan 13 = .ok (.iconst 0, 1) := by decide +kernel
theorem dX5_makePlan_14 : decode cX5_makePlan 14 = .ok (.iconst 0, 1) := by decide +kernel
theorem dX5_makePlan_15 : decode cX5_makePlan 15 = .ok (.invokestatic 45, 3) := by decide +kernel
theorem dX5_makePlan_18 : decode cX5_makePlan 18 = .ok (.aload_n 0, 1) := by decide +kernel
theorem dX5_makePlan_19 : decode cX5_makePlan 19 = .ok (.getfield 42, 3) := by decide +kernel
theorem dX5_makePlan_22 : decode cX5_makePlan 22 = .ok (.ireturn, 1) := by decide +kernel
theorem dX5_makePlanAnew_0 : decode cX5_makePlanAnew 0 = .ok (.aload_n 0, 1) := by decide +kernel
theorem dX5_makePlanAnew_1 : decode cX5_makePlanAnew 1 = .ok (.invokevirtual 39, 3) := by decide +kernel
theorem dX5_makePlanAnew_4 : decode cX5_makePlanAnew 4 = .ok (.aload_n 0, 1) := by decide +kernel
theorem dX5_makePlanAnew_5 : decode cX5_makePlanAnew 5 = .ok (.iconst 0, 1) := by decide +kernel
theorem dX5_makePlanAnew_6 : decode cX5_makePlanAnew 6 = .ok (.iconst 0, 1) := by decide +kernel
theorem dX5_makePlanAnew_7 : decode cX5_makePlanAnew 7 = .ok (.invokestatic 49, 3) := by decide +kernel
theorem dX5_makePlanAnew_10 : decode cX5_makePlanAnew 10 = .ok (.ireturn, 1) := by decide +kernel
theorem dX5_park_0 : decode cX5_park 0 = .ok (.aload_n 0, 1) := by decide +kernel
theorem dX5_park_1 : decode cX5_park 1 = .ok (.invokevirtual 53, 3) := by decide +kernel
theorem dX5_park_4 : decode cX5_park 4 = .ok (.istore_n 1, 1) := by decide +kernel
theorem dX5_park_5 : decode cX5_park 5 = .ok (.iconst 0, 1) := by decide +kernel
theorem dX5_park_6 : decode cX5_park 6 = .ok (.istore_n 2, 1) := by decide +kernel
theorem dX5_park_7 : decode cX5_park 7 = .ok (.iload_n 2, 1) := by decide +kernel
theorem dX5_park_8 : decode cX5_park 8 = .ok (.aload_n 0, 1) := by decide +kernel
theorem dX5_park_9 : decode cX5_park 9 = .ok (.getfield 12, 3) := by decide +kernel
theorem dX5_park_12 : decode cX5_park 12 = .ok (.invokevirtual 25, 3) := by decide +kernel
theorem dX5_park_15 : decode cX5_park 15 = .ok (.if_icmp .ge 42, 3) := by decide +kernel
theorem dX5_park_18 : decode cX5_park 18 = .ok (.aload_n 0, 1) := by decide +kernel
theorem dX5_park_19 : decode cX5_park 19 = .ok (.getfield 12, 3) := by decide +kernel
theorem dX5_park_22 : decode cX5_park 22 = .ok (.iload_n 2, 1) := by decide +kernel
theorem dX5_park_23 : decode cX5_park 23 = .ok (.invokevirtual 29, 3) := by decide +kernel
theorem dX5_park_26 : decode cX5_park 26 = .ok (.checkcast 33, 3) := by decide +kernel
theorem dX5_park_29 : decode cX5_park 29 = .ok (.astore_n 3, 1) := by decide +kernel
theorem dX5_park_30 : decode cX5_park 30 = .ok (.aload_n 3, 1) := by decide +kernel
theorem dX5_park_31 : decode cX5_park 31 = .ok (.aload_n 0, 1) := by decide +kernel
theorem dX5_park_32 : decode cX5_park 32 = .ok (.getfield 56, 3) := by decide +kernel
theorem dX5_park_35 : decode cX5_park 35 = .ok (.iload_n 2, 1) := by decide +kernel
theorem dX5_park_36 : decode cX5_park 36 = .ok (.invokestatic 59, 3) := by decide +kernel
theorem dX5_park_39 : decode cX5_park 39 = .ok (.putfield 63, 3) := by decide +kernel
theorem dX5_park_42 : decode cX5_park 42 = .ok (.aload_n 0, 1) := by decide +kernel
theorem dX5_park_43 : decode cX5_park 43 = .ok (.getfield 18, 3) := by decide +kernel
theorem dX5_park_46 : decode cX5_park 46 = .ok (.aload_n 3, 1) := by decide +kernel
theorem dX5_park_47 : decode cX5_park 47 = .ok (.invokevirtual 66, 3) := by decide +kernel
theorem dX5_park_50 : decode cX5_park 50 = .ok (.pop, 1) := by decide +kernel
theorem dX5_park_51 : decode cX5_park 51 = .ok (.iinc 2 1, 3) := by decide +kernel
theorem dX5_park_54 : decode cX5_park 54 = .ok (.goto (-47), 3) := by decide +kernel
theorem dX5_park_57 : decode cX5_park 57 = .ok (.aload_n 0, 1) := by decide +kernel
theorem dX5_park_58 : decode cX5_park 58 = .ok (.getfield 12, 3) := by decide +kernel
theorem dX5_park_61 : decode cX5_park 61 = .ok (.invokevirtual 70, 3) := by decide +kernel
theorem dX5_park_64 : decode cX5_park 64 = .ok (.iload_n 1, 1) := by decide +kernel
theorem dX5_park_65 : decode cX5_park 65 = .ok (.ireturn, 1) := by decide +kernel
theorem dX5_sendFirst_0 : decode cX5_sendFirst 0 = .ok (.iconst 0, 1) := by decide +kernel
theorem dX5_sendFirst_1 : decode cX5_sendFirst 1 = .ok (.istore_n 1, 1) := by decide +kernel
theorem dX5_sendFirst_2 : decode cX5_sendFirst 2 = .ok (.iconst 1, 1) := by decide +kernel
theorem dX5_sendFirst_3 : decode cX5_sendFirst 3 = .ok (.istore_n 2, 1) := by decide +kernel
theorem dX5_sendFirst_4 : decode cX5_sendFirst 4 = .ok (.iload_n 2, 1) := by decide +kernel
theorem dX5_sendFirst_5 : decode cX5_sendFirst 5 = .ok (.aload_n 0, 1) := by decide +kernel
theorem dX5_sendFirst_6 : decode cX5_sendFirst 6 = .ok (.getfield 18, 3) := by decide +kernel
theorem dX5_sendFirst_9 : decode cX5_sendFirst 9 = .ok (.invokevirtual 25, 3) := by decide +kernel
theorem dX5_sendFirst_12 : decode cX5_sendFirst 12 = .ok (.if_icmp .ge 42, 3) := by decide +kernel
theorem dX5_sendFirst_15 : decode cX5_sendFirst 15 = .ok (.aload_n 0, 1) := by decide +kernel
theorem dX5_sendFirst_16 : decode cX5_sendFirst 16 = .ok (.getfield 18, 3) := by decide +kernel
theorem dX5_sendFirst_19 : decode cX5_sendFirst 19 = .ok (.iload_n 2, 1) := by decide +kernel
theorem dX5_sendFirst_20 : decode cX5_sendFirst 20 = .ok (.invokevirtual 29, 3) := by decide +kernel
theorem dX5_sendFirst_23 : decode cX5_sendFirst 23 = .ok (.checkcast 33, 3) := by decide +kernel
theorem dX5_sendFirst_26 : decode cX5_sendFirst 26 = .ok (.getfield 35, 3) := by decide +kernel
theorem dX5_sendFirst_29 : decode cX5_sendFirst 29 = .ok (.aload_n 0, 1) := by decide +kernel
theorem dX5_sendFirst_30 : decode cX5_sendFirst 30 = .ok (.getfield 18, 3) := by decide +kernel
theorem dX5_sendFirst_33 : decode cX5_sendFirst 33 = .ok (.iload_n 1, 1) := by decide +kernel
theorem dX5_sendFirst_34 : decode cX5_sendFirst 34 = .ok (.invokevirtual 29, 3) := by decide +kernel
theorem dX5_sendFirst_37 : decode cX5_sendFirst 37 = .ok (.checkcast 33, 3) := by decide +kernel
theorem dX5_sendFirst_40 : decode cX5_sendFirst 40 = .ok (.getfield 35, 3) := by decide +kernel
theorem dX5_sendFirst_43 : decode cX5_sendFirst 43 = .ok (.if_icmp .ge 5, 3) := by decide +kernel
theorem dX5_sendFirst_46 : decode cX5_sendFirst 46 = .ok (.iload_n 2, 1) := by decide +kernel
theorem dX5_sendFirst_47 : decode cX5_sendFirst 47 = .ok (.istore_n 1, 1) := by decide +kernel
theorem dX5_sendFirst_48 : decode cX5_sendFirst 48 = .ok (.iinc 2 1, 3) := by decide +kernel
theorem dX5_sendFirst_51 : decode cX5_sendFirst 51 = .ok (.goto (-47), 3) := by decide +kernel
theorem dX5_sendFirst_54 : decode cX5_sendFirst 54 = .ok (.iload_n 1, 1) := by decide +kernel
theorem dX5_sendFirst_55 : decode cX5_sendFirst 55 = .ok (.aload_n 0, 1) := by decide +kernel
theorem dX5_sendFirst_56 : decode cX5_sendFirst 56 = .ok (.getfield 18, 3) := by decide +kernel
theorem dX5_sendFirst_59 : decode cX5_sendFirst 59 = .ok (.invokevirtual 25, 3) := by decide +kernel
theorem dX5_sendFirst_62 : decode cX5_sendFirst 62 = .ok (.if_icmp .lt 5, 3) := by decide +kernel
theorem dX5_sendFirst_65 : decode cX5_sendFirst 65 = .ok (.iconst 0, 1) := by decide +kernel
theorem dX5_sendFirst_66 : decode cX5_sendFirst 66 = .ok (.ireturn, 1) := by decide +kernel
theorem dX5_sendFirst_67 : decode cX5_sendFirst 67 = .ok (.aload_n 0, 1) := by decide +kernel
theorem dX5_sendFirst_68 : decode cX5_sendFirst 68 = .ok (.getfield 18, 3) := by decide +kernel
theorem dX5_sendFirst_71 : decode cX5_sendFirst 71 = .ok (.iload_n 1, 1) := by decide +kernel
theorem dX5_sendFirst_72 : decode cX5_sendFirst 72 = .ok (.invokevirtual 73, 3) := by decide +kernel
theorem dX5_sendFirst_75 : decode cX5_sendFirst 75 = .ok (.checkcast 33, 3) := by decide +kernel
theorem dX5_sendFirst_78 : decode cX5_sendFirst 78 = .ok (.astore_n 2, 1) := by decide +kernel
theorem dX5_sendFirst_79 : decode cX5_sendFirst 79 = .ok (.iconst 0, 1) := by decide +kernel
theorem dX5_sendFirst_80 : decode cX5_sendFirst 80 = .ok (.istore_n 3, 1) := by decide +kernel
theorem dX5_sendFirst_81 : decode cX5_sendFirst 81 = .ok (.iload_n 1, 1) := by decide +kernel
theorem dX5_sendFirst_82 : decode cX5_sendFirst 82 = .ok (.istore 4, 2) := by decide +kernel
theorem dX5_sendFirst_84 : decode cX5_sendFirst 84 = .ok (.iload 4, 2) := by decide +kernel
theorem dX5_sendFirst_86 : decode cX5_sendFirst 86 = .ok (.aload_n 0, 1) := by decide +kernel
theorem dX5_sendFirst_87 : decode cX5_sendFirst 87 = .ok (.getfield 18, 3) := by decide +kernel
theorem dX5_sendFirst_90 : decode cX5_sendFirst 90 = .ok (.invokevirtual 25, 3) := by decide +kernel
theorem dX5_sendFirst_93 : decode cX5_sendFirst 93 = .ok (.if_icmp .ge 34, 3) := by decide +kernel
theorem dX5_sendFirst_96 : decode cX5_sendFirst 96 = .ok (.aload_n 0, 1) := by decide +kernel
theorem dX5_sendFirst_97 : decode cX5_sendFirst 97 = .ok (.getfield 18, 3) := by decide +kernel
theorem dX5_sendFirst_100 : decode cX5_sendFirst 100 = .ok (.iload 4, 2) := by decide +kernel
theorem dX5_sendFirst_102 : decode cX5_sendFirst 102 = .ok (.invokevirtual 29, 3) := by decide +kernel
theorem dX5_sendFirst_105 : decode cX5_sendFirst 105 = .ok (.checkcast 33, 3) := by decide +kernel
theorem dX5_sendFirst_108 : decode cX5_sendFirst 108 = .ok (.getfield 63, 3) := by decide +kernel
theorem dX5_sendFirst_111 : decode cX5_sendFirst 111 = .ok (.aload_n 2, 1) := by decide +kernel
theorem dX5_sendFirst_112 : decode cX5_sendFirst 112 = .ok (.getfield 63, 3) := by decide +kernel
theorem dX5_sendFirst_115 : decode cX5_sendFirst 115 = .ok (.if_icmp .ne 6, 3) := by decide +kernel
theorem dX5_sendFirst_118 : decode cX5_sendFirst 118 = .ok (.iinc 3 1, 3) := by decide +kernel
theorem dX5_sendFirst_121 : decode cX5_sendFirst 121 = .ok (.iinc 4 1, 3) := by decide +kernel
theorem dX5_sendFirst_124 : decode cX5_sendFirst 124 = .ok (.goto (-40), 3) := by decide +kernel
theorem dX5_sendFirst_127 : decode cX5_sendFirst 127 = .ok (.aload_n 2, 1) := by decide +kernel
theorem dX5_sendFirst_128 : decode cX5_sendFirst 128 = .ok (.iconst (-1), 1) := by decide +kernel
theorem dX5_sendFirst_129 : decode cX5_sendFirst 129 = .ok (.putfield 63, 3) := by decide +kernel
theorem dX5_sendFirst_132 : decode cX5_sendFirst 132 = .ok (.iload_n 3, 1) := by decide +kernel
theorem dX5_sendFirst_133 : decode cX5_sendFirst 133 = .ok (.ireturn, 1) := by decide +kernel
theorem dX5_trainOn_0 : decode cX5_trainOn 0 = .ok (.iconst 0, 1) := by decide +kernel
theorem dX5_trainOn_1 : decode cX5_trainOn 1 = .ok (.istore_n 3, 1) := by decide +kernel
theorem dX5_trainOn_2 : decode cX5_trainOn 2 = .ok (.iconst 0, 1) := by decide +kernel
theorem dX5_trainOn_3 : decode cX5_trainOn 3 = .ok (.istore 4, 2) := by decide +kernel
theorem dX5_trainOn_5 : decode cX5_trainOn 5 = .ok (.iload 4, 2) := by decide +kernel
theorem dX5_trainOn_7 : decode cX5_trainOn 7 = .ok (.aload_n 0, 1) := by decide +kernel
theorem dX5_trainOn_8 : decode cX5_trainOn 8 = .ok (.getfield 18, 3) := by decide +kernel
theorem dX5_trainOn_11 : decode cX5_trainOn 11 = .ok (.invokevirtual 25, 3) := by decide +kernel
theorem dX5_trainOn_14 : decode cX5_trainOn 14 = .ok (.if_icmp .ge 46, 3) := by decide +kernel
theorem dX5_trainOn_17 : decode cX5_trainOn 17 = .ok (.aload_n 0, 1) := by decide +kernel
theorem dX5_trainOn_18 : decode cX5_trainOn 18 = .ok (.getfield 18, 3) := by decide +kernel
theorem dX5_trainOn_21 : decode cX5_trainOn 21 = .ok (.iload 4, 2) := by decide +kernel
theorem dX5_trainOn_23 : decode cX5_trainOn 23 = .ok (.invokevirtual 29, 3) := by decide +kernel
theorem dX5_trainOn_26 : decode cX5_trainOn 26 = .ok (.checkcast 33, 3) := by decide +kernel
theorem dX5_trainOn_29 : decode cX5_trainOn 29 = .ok (.astore 5, 2) := by decide +kernel
theorem dX5_trainOn_31 : decode cX5_trainOn 31 = .ok (.aload 5, 2) := by decide +kernel
theorem dX5_trainOn_33 : decode cX5_trainOn 33 = .ok (.getfield 63, 3) := by decide +kernel
theorem dX5_trainOn_36 : decode cX5_trainOn 36 = .ok (.iload_n 1, 1) := by decide +kernel
theorem dX5_trainOn_37 : decode cX5_trainOn 37 = .ok (.if_icmp .ne 17, 3) := by decide +kernel
theorem dX5_trainOn_40 : decode cX5_trainOn 40 = .ok (.iload_n 3, 1) := by decide +kernel
theorem dX5_trainOn_41 : decode cX5_trainOn 41 = .ok (.iload_n 2, 1) := by decide +kernel
theorem dX5_trainOn_42 : decode cX5_trainOn 42 = .ok (.if_icmp .ne 9, 3) := by decide +kernel
theorem dX5_trainOn_45 : decode cX5_trainOn 45 = .ok (.aload 5, 2) := by decide +kernel
theorem dX5_trainOn_47 : decode cX5_trainOn 47 = .ok (.getfield 76, 3) := by decide +kernel
theorem dX5_trainOn_50 : decode cX5_trainOn 50 = .ok (.ireturn, 1) := by decide +kernel
theorem dX5_trainOn_51 : decode cX5_trainOn 51 = .ok (.iinc 3 1, 3) := by decide +kernel
theorem dX5_trainOn_54 : decode cX5_trainOn 54 = .ok (.iinc 4 1, 3) := by decide +kernel
theorem dX5_trainOn_57 : decode cX5_trainOn 57 = .ok (.goto (-52), 3) := by decide +kernel
theorem dX5_trainOn_60 : decode cX5_trainOn 60 = .ok (.iconst (-1), 1) := by decide +kernel
theorem dX5_trainOn_61 : decode cX5_trainOn 61 = .ok (.ireturn, 1) := by decide +kernel
theorem dX5_markBlocked_0 : decode cX5_markBlocked 0 = .ok (.iconst 0, 1) := by decide +kernel
theorem dX5_markBlocked_1 : decode cX5_markBlocked 1 = .ok (.istore_n 1, 1) := by decide +kernel
theorem dX5_markBlocked_2 : decode cX5_markBlocked 2 = .ok (.iload_n 1, 1) := by decide +kernel
theorem dX5_markBlocked_3 : decode cX5_markBlocked 3 = .ok (.aload_n 0, 1) := by decide +kernel
theorem dX5_markBlocked_4 : decode cX5_markBlocked 4 = .ok (.getfield 12, 3) := by decide +kernel
theorem dX5_markBlocked_7 : decode cX5_markBlocked 7 = .ok (.invokevirtual 25, 3) := by decide +kernel
theorem dX5_markBlocked_10 : decode cX5_markBlocked 10 = .ok (.if_icmp .ge 81, 3) := by decide +kernel
theorem dX5_markBlocked_13 : decode cX5_markBlocked 13 = .ok (.iload_n 1, 1) := by decide +kernel
theorem dX5_markBlocked_14 : decode cX5_markBlocked 14 = .ok (.aload_n 0, 1) := by decide +kernel
theorem dX5_markBlocked_15 : decode cX5_markBlocked 15 = .ok (.getfield 21, 3) := by decide +kernel
theorem dX5_markBlocked_18 : decode cX5_markBlocked 18 = .ok (.arraylength, 1) := by decide +kernel
theorem dX5_markBlocked_19 : decode cX5_markBlocked 19 = .ok (.if_icmp .ge 72, 3) := by decide +kernel
theorem dX5_markBlocked_22 : decode cX5_markBlocked 22 = .ok (.aload_n 0, 1) := by decide +kernel
theorem dX5_markBlocked_23 : decode cX5_markBlocked 23 = .ok (.getfield 21, 3) := by decide +kernel
theorem dX5_markBlocked_26 : decode cX5_markBlocked 26 = .ok (.iload_n 1, 1) := by decide +kernel
theorem dX5_markBlocked_27 : decode cX5_markBlocked 27 = .ok (.iconst 0, 1) := by decide +kernel
theorem dX5_markBlocked_28 : decode cX5_markBlocked 28 = .ok (.iastore, 1) := by decide +kernel
theorem dX5_markBlocked_29 : decode cX5_markBlocked 29 = .ok (.iconst 0, 1) := by decide +kernel
theorem dX5_markBlocked_30 : decode cX5_markBlocked 30 = .ok (.istore_n 2, 1) := by decide +kernel
theorem dX5_markBlocked_31 : decode cX5_markBlocked 31 = .ok (.iload_n 2, 1) := by decide +kernel
theorem dX5_markBlocked_32 : decode cX5_markBlocked 32 = .ok (.iload_n 1, 1) := by decide +kernel
theorem dX5_markBlocked_33 : decode cX5_markBlocked 33 = .ok (.if_icmp .ge 52, 3) := by decide +kernel
theorem dX5_markBlocked_36 : decode cX5_markBlocked 36 = .ok (.aload_n 0, 1) := by decide +kernel
theorem dX5_markBlocked_37 : decode cX5_markBlocked 37 = .ok (.getfield 12, 3) := by decide +kernel
theorem dX5_markBlocked_40 : decode cX5_markBlocked 40 = .ok (.iload_n 2, 1) := by decide +kernel
theorem dX5_markBlocked_41 : decode cX5_markBlocked 41 = .ok (.invokevirtual 29, 3) := by decide +kernel
theorem dX5_markBlocked_44 : decode cX5_markBlocked 44 = .ok (.checkcast 33, 3) := by decide +kernel
theorem dX5_markBlocked_47 : decode cX5_markBlocked 47 = .ok (.getfield 35, 3) := by decide +kernel
theorem dX5_markBlocked_50 : decode cX5_markBlocked 50 = .ok (.aload_n 0, 1) := by decide +kernel
theorem dX5_markBlocked_51 : decode cX5_markBlocked 51 = .ok (.getfield 12, 3) := by decide +kernel
theorem dX5_markBlocked_54 : decode cX5_markBlocked 54 = .ok (.iload_n 1, 1) := by decide +kernel
theorem dX5_markBlocked_55 : decode cX5_markBlocked 55 = .ok (.invokevirtual 29, 3) := by decide +kernel
theorem dX5_markBlocked_58 : decode cX5_markBlocked 58 = .ok (.checkcast 33, 3) := by decide +kernel
theorem dX5_markBlocked_61 : decode cX5_markBlocked 61 = .ok (.getfield 35, 3) := by decide +kernel
theorem dX5_markBlocked_64 : decode cX5_markBlocked 64 = .ok (.if_icmp .ge 15, 3) := by decide +kernel
theorem dX5_markBlocked_67 : decode cX5_markBlocked 67 = .ok (.aload_n 0, 1) := by decide +kernel
theorem dX5_markBlocked_68 : decode cX5_markBlocked 68 = .ok (.getfield 21, 3) := by decide +kernel
theorem dX5_markBlocked_71 : decode cX5_markBlocked 71 = .ok (.iload_n 1, 1) := by decide +kernel
theorem dX5_markBlocked_72 : decode cX5_markBlocked 72 = .ok (.dup2, 1) := by decide +kernel
theorem dX5_markBlocked_73 : decode cX5_markBlocked 73 = .ok (.iaload, 1) := by decide +kernel
theorem dX5_markBlocked_74 : decode cX5_markBlocked 74 = .ok (.iconst 1, 1) := by decide +kernel
theorem dX5_markBlocked_75 : decode cX5_markBlocked 75 = .ok (.iload_n 2, 1) := by decide +kernel
theorem dX5_markBlocked_76 : decode cX5_markBlocked 76 = .ok (.ishl, 1) := by decide +kernel
theorem dX5_markBlocked_77 : decode cX5_markBlocked 77 = .ok (.ior, 1) := by decide +kernel
theorem dX5_markBlocked_78 : decode cX5_markBlocked 78 = .ok (.iastore, 1) := by decide +kernel
theorem dX5_markBlocked_79 : decode cX5_markBlocked 79 = .ok (.iinc 2 1, 3) := by decide +kernel
theorem dX5_markBlocked_82 : decode cX5_markBlocked 82 = .ok (.goto (-51), 3) := by decide +kernel
theorem dX5_markBlocked_85 : decode cX5_markBlocked 85 = .ok (.iinc 1 1, 3) := by decide +kernel
theorem dX5_markBlocked_88 : decode cX5_markBlocked 88 = .ok (.goto (-86), 3) := by decide +kernel
theorem dX5_markBlocked_91 : decode cX5_markBlocked 91 = .ok (.return_, 1) := by decide +kernel
theorem dX5_searchPlan_0 : decode cX5_searchPlan 0 = .ok (.iload_n 3, 1) := by decide +kernel
theorem dX5_searchPlan_1 : decode cX5_searchPlan 1 = .ok (.aload_n 0, 1) := by decide +kernel
theorem dX5_searchPlan_2 : decode cX5_searchPlan 2 = .ok (.getfield 42, 3) := by decide +kernel
theorem dX5_searchPlan_5 : decode cX5_searchPlan 5 = .ok (.if_icmp .lt 4, 3) := by decide +kernel
theorem dX5_searchPlan_8 : decode cX5_searchPlan 8 = .ok (.return_, 1) := by decide +kernel
theorem dX5_searchPlan_9 : decode cX5_searchPlan 9 = .ok (.iload_n 1, 1) := by decide +kernel
theorem dX5_searchPlan_10 : decode cX5_searchPlan 10 = .ok (.aload_n 0, 1) := by decide +kernel
theorem dX5_searchPlan_11 : decode cX5_searchPlan 11 = .ok (.getfield 12, 3) := by decide +kernel
theorem dX5_searchPlan_14 : decode cX5_searchPlan 14 = .ok (.invokevirtual 25, 3) := by decide +kernel
theorem dX5_searchPlan_17 : decode cX5_searchPlan 17 = .ok (.if_icmp .ge 12, 3) := by decide +kernel
theorem dX5_searchPlan_20 : decode cX5_searchPlan 20 = .ok (.iload_n 1, 1) := by decide +kernel
theorem dX5_searchPlan_21 : decode cX5_searchPlan 21 = .ok (.aload_n 0, 1) := by decide +kernel
theorem dX5_searchPlan_22 : decode cX5_searchPlan 22 = .ok (.getfield 21, 3) := by decide +kernel
theorem dX5_searchPlan_25 : decode cX5_searchPlan 25 = .ok (.arraylength, 1) := by decide +kernel
theorem dX5_searchPlan_26 : decode cX5_searchPlan 26 = .ok (.if_icmp .lt 14, 3) := by decide +kernel
theorem dX5_searchPlan_29 : decode cX5_searchPlan 29 = .ok (.aload_n 0, 1) := by decide +kernel
theorem dX5_searchPlan_30 : decode cX5_searchPlan 30 = .ok (.iload_n 3, 1) := by decide +kernel
theorem dX5_searchPlan_31 : decode cX5_searchPlan 31 = .ok (.putfield 42, 3) := by decide +kernel
theorem dX5_searchPlan_34 : decode cX5_searchPlan 34 = .ok (.aload_n 0, 1) := by decide +kernel
theorem dX5_searchPlan_35 : decode cX5_searchPlan 35 = .ok (.iload_n 2, 1) := by decide +kernel
theorem dX5_searchPlan_36 : decode cX5_searchPlan 36 = .ok (.putfield 56, 3) := by decide +kernel
theorem dX5_searchPlan_39 : decode cX5_searchPlan 39 = .ok (.return_, 1) := by decide +kernel
theorem dX5_searchPlan_40 : decode cX5_searchPlan 40 = .ok (.iconst 0, 1) := by decide +kernel
theorem dX5_searchPlan_41 : decode cX5_searchPlan 41 = .ok (.istore 4, 2) := by decide +kernel
theorem dX5_searchPlan_43 : decode cX5_searchPlan 43 = .ok (.iload 4, 2) := by decide +kernel
theorem dX5_searchPlan_45 : decode cX5_searchPlan 45 = .ok (.iconst 3, 1) := by decide +kernel
theorem dX5_searchPlan_46 : decode cX5_searchPlan 46 = .ok (.if_icmp .ge 55, 3) := by decide +kernel
theorem dX5_searchPlan_49 : decode cX5_searchPlan 49 = .ok (.iload_n 2, 1) := by decide +kernel
theorem dX5_searchPlan_50 : decode cX5_searchPlan 50 = .ok (.iload 4, 2) := by decide +kernel
theorem dX5_searchPlan_52 : decode cX5_searchPlan 52 = .ok (.invokestatic 79, 3) := by decide +kernel
theorem dX5_searchPlan_55 : decode cX5_searchPlan 55 = .ok (.istore 5, 2) := by decide +kernel
theorem dX5_searchPlan_57 : decode cX5_searchPlan 57 = .ok (.iload 5, 2) := by decide +kernel
theorem dX5_searchPlan_59 : decode cX5_searchPlan 59 = .ok (.invokestatic 82, 3) := by decide +kernel
theorem dX5_searchPlan_62 : decode cX5_searchPlan 62 = .ok (.iconst 4, 1) := by decide +kernel
theorem dX5_searchPlan_63 : decode cX5_searchPlan 63 = .ok (.if_icmp .ge 32, 3) := by decide +kernel
theorem dX5_searchPlan_66 : decode cX5_searchPlan 66 = .ok (.aload_n 0, 1) := by decide +kernel
theorem dX5_searchPlan_67 : decode cX5_searchPlan 67 = .ok (.iload_n 1, 1) := by decide +kernel
theorem dX5_searchPlan_68 : decode cX5_searchPlan 68 = .ok (.iconst 1, 1) := by decide +kernel
theorem dX5_searchPlan_69 : decode cX5_searchPlan 69 = .ok (.iadd, 1) := by decide +kernel
theorem dX5_searchPlan_70 : decode cX5_searchPlan 70 = .ok (.iload_n 2, 1) := by decide +kernel
theorem dX5_searchPlan_71 : decode cX5_searchPlan 71 = .ok (.iload 4, 2) := by decide +kernel
theorem dX5_searchPlan_73 : decode cX5_searchPlan 73 = .ok (.iload_n 1, 1) := by decide +kernel
theorem dX5_searchPlan_74 : decode cX5_searchPlan 74 = .ok (.invokestatic 88, 3) := by decide +kernel
theorem dX5_searchPlan_77 : decode cX5_searchPlan 77 = .ok (.ior, 1) := by decide +kernel
theorem dX5_searchPlan_78 : decode cX5_searchPlan 78 = .ok (.iload_n 3, 1) := by decide +kernel
theorem dX5_searchPlan_79 : decode cX5_searchPlan 79 = .ok (.iload 5, 2) := by decide +kernel
theorem dX5_searchPlan_81 : decode cX5_searchPlan 81 = .ok (.aload_n 0, 1) := by decide +kernel
theorem dX5_searchPlan_82 : decode cX5_searchPlan 82 = .ok (.getfield 21, 3) := by decide +kernel
theorem dX5_searchPlan_85 : decode cX5_searchPlan 85 = .ok (.iload_n 1, 1) := by decide +kernel
theorem dX5_searchPlan_86 : decode cX5_searchPlan 86 = .ok (.iaload, 1) := by decide +kernel
theorem dX5_searchPlan_87 : decode cX5_searchPlan 87 = .ok (.iand, 1) := by decide +kernel
theorem dX5_searchPlan_88 : decode cX5_searchPlan 88 = .ok (.invokestatic 82, 3) := by decide +kernel
theorem dX5_searchPlan_91 : decode cX5_searchPlan 91 = .ok (.iadd, 1) := by decide +kernel
theorem dX5_searchPlan_92 : decode cX5_searchPlan 92 = .ok (.invokestatic 45, 3) := by decide +kernel
theorem dX5_searchPlan_95 : decode cX5_searchPlan 95 = .ok (.iinc 4 1, 3) := by decide +kernel
theorem dX5_searchPlan_98 : decode cX5_searchPlan 98 = .ok (.goto (-55), 3) := by decide +kernel
theorem dX5_searchPlan_101 : decode cX5_searchPlan 101 = .ok (.return_, 1) := by decide +kernel
theorem dX5_fewestMoves_0 : decode cX5_fewestMoves 0 = .ok (.iload_n 1, 1) := by decide +kernel
theorem dX5_fewestMoves_1 : decode cX5_fewestMoves 1 = .ok (.aload_n 0, 1) := by decide +kernel
theorem dX5_fewestMoves_2 : decode cX5_fewestMoves 2 = .ok (.getfield 12, 3) := by decide +kernel
theorem dX5_fewestMoves_5 : decode cX5_fewestMoves 5 = .ok (.invokevirtual 25, 3) := by decide +kernel
theorem dX5_fewestMoves_8 : decode cX5_fewestMoves 8 = .ok (.if_icmp .ge 12, 3) := by decide +kernel
theorem dX5_fewestMoves_11 : decode cX5_fewestMoves 11 = .ok (.iload_n 1, 1) := by decide +kernel
theorem dX5_fewestMoves_12 : decode cX5_fewestMoves 12 = .ok (.aload_n 0, 1) := by decide +kernel
theorem dX5_fewestMoves_13 : decode cX5_fewestMoves 13 = .ok (.getfield 21, 3) := by decide +kernel
theorem dX5_fewestMoves_16 : decode cX5_fewestMoves 16 = .ok (.arraylength, 1) := by decide +kernel
theorem dX5_fewestMoves_17 : decode cX5_fewestMoves 17 = .ok (.if_icmp .lt 5, 3) := by decide +kernel
theorem dX5_fewestMoves_20 : decode cX5_fewestMoves 20 = .ok (.iconst 0, 1) := by decide +kernel
theorem dX5_fewestMoves_21 : decode cX5_fewestMoves 21 = .ok (.ireturn, 1) := by decide +kernel
theorem dX5_fewestMoves_22 : decode cX5_fewestMoves 22 = .ok (.sipush 1000, 3) := by decide +kernel
theorem dX5_fewestMoves_25 : decode cX5_fewestMoves 25 = .ok (.istore_n 3, 1) := by decide +kernel
theorem dX5_fewestMoves_26 : decode cX5_fewestMoves 26 = .ok (.iconst 0, 1) := by decide +kernel
theorem dX5_fewestMoves_27 : decode cX5_fewestMoves 27 = .ok (.istore 4, 2) := by decide +kernel
theorem dX5_fewestMoves_29 : decode cX5_fewestMoves 29 = .ok (.iload 4, 2) := by decide +kernel
theorem dX5_fewestMoves_31 : decode cX5_fewestMoves 31 = .ok (.iconst 3, 1) := by decide +kernel
theorem dX5_fewestMoves_32 : decode cX5_fewestMoves 32 = .ok (.if_icmp .ge 63, 3) := by decide +kernel
theorem dX5_fewestMoves_35 : decode cX5_fewestMoves 35 = .ok (.iload_n 2, 1) := by decide +kernel
theorem dX5_fewestMoves_36 : decode cX5_fewestMoves 36 = .ok (.iload 4, 2) := by decide +kernel
theorem dX5_fewestMoves_38 : decode cX5_fewestMoves 38 = .ok (.invokestatic 79, 3) := by decide +kernel
theorem dX5_fewestMoves_41 : decode cX5_fewestMoves 41 = .ok (.istore 5, 2) := by decide +kernel
theorem dX5_fewestMoves_43 : decode cX5_fewestMoves 43 = .ok (.iload 5, 2) := by decide +kernel
theorem dX5_fewestMoves_45 : decode cX5_fewestMoves 45 = .ok (.invokestatic 82, 3) := by decide +kernel
theorem dX5_fewestMoves_48 : decode cX5_fewestMoves 48 = .ok (.iconst 4, 1) := by decide +kernel
theorem dX5_fewestMoves_49 : decode cX5_fewestMoves 49 = .ok (.if_icmp .ge 40, 3) := by decide +kernel
theorem dX5_fewestMoves_52 : decode cX5_fewestMoves 52 = .ok (.iload 5, 2) := by decide +kernel
theorem dX5_fewestMoves_54 : decode cX5_fewestMoves 54 = .ok (.aload_n 0, 1) := by decide +kernel
theorem dX5_fewestMoves_55 : decode cX5_fewestMoves 55 = .ok (.getfield 21, 3) := by decide +kernel
theorem dX5_fewestMoves_58 : decode cX5_fewestMoves 58 = .ok (.iload_n 1, 1) := by decide +kernel
theorem dX5_fewestMoves_59 : decode cX5_fewestMoves 59 = .ok (.iaload, 1) := by decide +kernel
theorem dX5_fewestMoves_60 : decode cX5_fewestMoves 60 = .ok (.iand, 1) := by decide +kernel
theorem dX5_fewestMoves_61 : decode cX5_fewestMoves 61 = .ok (.invokestatic 82, 3) := by decide +kernel
theorem dX5_fewestMoves_64 : decode cX5_fewestMoves 64 = .ok (.aload_n 0, 1) := by decide +kernel
theorem dX5_fewestMoves_65 : decode cX5_fewestMoves 65 = .ok (.iload_n 1, 1) := by decide +kernel
theorem dX5_fewestMoves_66 : decode cX5_fewestMoves 66 = .ok (.iconst 1, 1) := by decide +kernel
theorem dX5_fewestMoves_67 : decode cX5_fewestMoves 67 = .ok (.iadd, 1) := by decide +kernel
theorem dX5_fewestMoves_68 : decode cX5_fewestMoves 68 = .ok (.iload_n 2, 1) := by decide +kernel
theorem dX5_fewestMoves_69 : decode cX5_fewestMoves 69 = .ok (.iload 4, 2) := by decide +kernel
theorem dX5_fewestMoves_71 : decode cX5_fewestMoves 71 = .ok (.iload_n 1, 1) := by decide +kernel
theorem dX5_fewestMoves_72 : decode cX5_fewestMoves 72 = .ok (.invokestatic 88, 3) := by decide +kernel
theorem dX5_fewestMoves_75 : decode cX5_fewestMoves 75 = .ok (.ior, 1) := by decide +kernel
theorem dX5_fewestMoves_76 : decode cX5_fewestMoves 76 = .ok (.invokestatic 49, 3) := by decide +kernel
theorem dX5_fewestMoves_79 : decode cX5_fewestMoves 79 = .ok (.iadd, 1) := by decide +kernel
theorem dX5_fewestMoves_80 : decode cX5_fewestMoves 80 = .ok (.istore 6, 2) := by decide +kernel
theorem dX5_fewestMoves_82 : decode cX5_fewestMoves 82 = .ok (.iload_n 3, 1) := by decide +kernel
theorem dX5_fewestMoves_83 : decode cX5_fewestMoves 83 = .ok (.iload 6, 2) := by decide +kernel
theorem dX5_fewestMoves_85 : decode cX5_fewestMoves 85 = .ok (.invokestatic 91, 3) := by decide +kernel
theorem dX5_fewestMoves_88 : decode cX5_fewestMoves 88 = .ok (.istore_n 3, 1) := by decide +kernel
theorem dX5_fewestMoves_89 : decode cX5_fewestMoves 89 = .ok (.iinc 4 1, 3) := by decide +kernel
theorem dX5_fewestMoves_92 : decode cX5_fewestMoves 92 = .ok (.goto (-63), 3) := by decide +kernel
theorem dX5_fewestMoves_95 : decode cX5_fewestMoves 95 = .ok (.iload_n 3, 1) := by decide +kernel
theorem dX5_fewestMoves_96 : decode cX5_fewestMoves 96 = .ok (.ireturn, 1) := by decide +kernel
theorem dX5_trainsIn_0 : decode cX5_trainsIn 0 = .ok (.iload_n 0, 1) := by decide +kernel
theorem dX5_trainsIn_1 : decode cX5_trainsIn 1 = .ok (.iload_n 1, 1) := by decide +kernel
theorem dX5_trainsIn_2 : decode cX5_trainsIn 2 = .ok (.bipush 8, 2) := by decide +kernel
theorem dX5_trainsIn_4 : decode cX5_trainsIn 4 = .ok (.imul, 1) := by decide +kernel
theorem dX5_trainsIn_5 : decode cX5_trainsIn 5 = .ok (.ishr, 1) := by decide +kernel
theorem dX5_trainsIn_6 : decode cX5_trainsIn 6 = .ok (.sipush 255, 3) := by decide +kernel
theorem dX5_trainsIn_9 : decode cX5_trainsIn 9 = .ok (.iand, 1) := by decide +kernel
theorem dX5_trainsIn_10 : decode cX5_trainsIn 10 = .ok (.ireturn, 1) := by decide +kernel
theorem dX5_bitOf_0 : decode cX5_bitOf 0 = .ok (.iconst 1, 1) := by decide +kernel
theorem dX5_bitOf_1 : decode cX5_bitOf 1 = .ok (.iload_n 0, 1) := by decide +kernel
theorem dX5_bitOf_2 : decode cX5_bitOf 2 = .ok (.bipush 8, 2) := by decide +kernel
theorem dX5_bitOf_4 : decode cX5_bitOf 4 = .ok (.imul, 1) := by decide +kernel
theorem dX5_bitOf_5 : decode cX5_bitOf 5 = .ok (.iload_n 1, 1) := by decide +kernel
theorem dX5_bitOf_6 : decode cX5_bitOf 6 = .ok (.iadd, 1) := by decide +kernel
theorem dX5_bitOf_7 : decode cX5_bitOf 7 = .ok (.ishl, 1) := by decide +kernel
theorem dX5_bitOf_8 : decode cX5_bitOf 8 = .ok (.ireturn, 1) := by decide +kernel
theorem dX5_roadIn_0 : decode cX5_roadIn 0 = .ok (.iconst 0, 1) := by decide +kernel
theorem dX5_roadIn_1 : decode cX5_roadIn 1 = .ok (.istore_n 2, 1) := by decide +kernel
theorem dX5_roadIn_2 : decode cX5_roadIn 2 = .ok (.iload_n 2, 1) := by decide +kernel
theorem dX5_roadIn_3 : decode cX5_roadIn 3 = .ok (.iconst 3, 1) := by decide +kernel
theorem dX5_roadIn_4 : decode cX5_roadIn 4 = .ok (.if_icmp .ge 21, 3) := by decide +kernel
theorem dX5_roadIn_7 : decode cX5_roadIn 7 = .ok (.iload_n 0, 1) := by decide +kernel
theorem dX5_roadIn_8 : decode cX5_roadIn 8 = .ok (.iload_n 2, 1) := by decide +kernel
theorem dX5_roadIn_9 : decode cX5_roadIn 9 = .ok (.iload_n 1, 1) := by decide +kernel
theorem dX5_roadIn_10 : decode cX5_roadIn 10 = .ok (.invokestatic 88, 3) := by decide +kernel
theorem dX5_roadIn_13 : decode cX5_roadIn 13 = .ok (.iand, 1) := by decide +kernel
theorem dX5_roadIn_14 : decode cX5_roadIn 14 = .ok (.ifCond .eq 5, 3) := by decide +kernel
theorem dX5_roadIn_17 : decode cX5_roadIn 17 = .ok (.iload_n 2, 1) := by decide +kernel
theorem dX5_roadIn_18 : decode cX5_roadIn 18 = .ok (.ireturn, 1) := by decide +kernel
theorem dX5_roadIn_19 : decode cX5_roadIn 19 = .ok (.iinc 2 1, 3) := by decide +kernel
theorem dX5_roadIn_22 : decode cX5_roadIn 22 = .ok (.goto (-20), 3) := by decide +kernel
theorem dX5_roadIn_25 : decode cX5_roadIn 25 = .ok (.iconst 0, 1) := by decide +kernel
theorem dX5_roadIn_26 : decode cX5_roadIn 26 = .ok (.ireturn, 1) := by decide +kernel
theorem dX6_init_0 : decode cX6_init 0 = .ok (.aload_n 0, 1) := by decide +kernel
theorem dX6_init_1 : decode cX6_init 1 = .ok (.invokespecial 1, 3) := by decide +kernel
theorem dX6_init_4 : decode cX6_init 4 = .ok (.aload_n 0, 1) := by decide +kernel
theorem dX6_init_5 : decode cX6_init 5 = .ok (.new 7, 3) := by decide +kernel
theorem dX6_init_8 : decode cX6_init 8 = .ok (.dup, 1) := by decide +kernel
theorem dX6_init_9 : decode cX6_init 9 = .ok (.invokespecial 9, 3) := by decide +kernel
theorem dX6_init_12 : decode cX6_init 12 = .ok (.putfield 10, 3) := by decide +kernel
theorem dX6_init_15 : decode cX6_init 15 = .ok (.aload_n 0, 1) := by decide +kernel
theorem dX6_init_16 : decode cX6_init 16 = .ok (.iconst 5, 1) := by decide +kernel
theorem dX6_init_17 : decode cX6_init 17 = .ok (.anewarray 16, 3) := by decide +kernel
theorem dX6_init_20 : decode cX6_init 20 = .ok (.putfield 18, 3) := by decide +kernel
theorem dX6_init_23 : decode cX6_init 23 = .ok (.aload_n 0, 1) := by decide +kernel
theorem dX6_init_24 : decode cX6_init 24 = .ok (.new 22, 3) := by decide +kernel
theorem dX6_init_27 : decode cX6_init 27 = .ok (.dup, 1) := by decide +kernel
theorem dX6_init_28 : decode cX6_init 28 = .ok (.invokespecial 24, 3) := by decide +kernel
theorem dX6_init_31 : decode cX6_init 31 = .ok (.putfield 25, 3) := by decide +kernel
theorem dX6_init_34 : decode cX6_init 34 = .ok (.aload_n 0, 1) := by decide +kernel
theorem dX6_init_35 : decode cX6_init 35 = .ok (.new 29, 3) := by decide +kernel
theorem dX6_init_38 : decode cX6_init 38 = .ok (.dup, 1) := by decide +kernel
theorem dX6_init_39 : decode cX6_init 39 = .ok (.invokespecial 31, 3) := by decide +kernel
theorem dX6_init_42 : decode cX6_init 42 = .ok (.putfield 32, 3) := by decide +kernel
theorem dX6_init_45 : decode cX6_init 45 = .ok (.iconst 0, 1) := by decide +kernel
theorem dX6_init_46 : decode cX6_init 46 = .ok (.istore_n 1, 1) := by decide +kernel
theorem dX6_init_47 : decode cX6_init 47 = .ok (.iload_n 1, 1) := by decide +kernel
theorem dX6_init_48 : decode cX6_init 48 = .ok (.aload_n 0, 1) := by decide +kernel
theorem dX6_init_49 : decode cX6_init 49 = .ok (.getfield 18, 3) := by decide +kernel
theorem dX6_init_52 : decode cX6_init 52 = .ok (.arraylength, 1) := by decide +kernel
theorem dX6_init_53 : decode cX6_init 53 = .ok (.if_icmp .ge 22, 3) := by decide +kernel
theorem dX6_init_56 : decode cX6_init 56 = .ok (.aload_n 0, 1) := by decide +kernel
theorem dX6_init_57 : decode cX6_init 57 = .ok (.getfield 18, 3) := by decide +kernel
theorem dX6_init_60 : decode cX6_init 60 = .ok (.iload_n 1, 1) := by decide +kernel
theorem dX6_init_61 : decode cX6_init 61 = .ok (.new 16, 3) := by decide +kernel
theorem dX6_init_64 : decode cX6_init 64 = .ok (.dup, 1) := by decide +kernel
theorem dX6_init_65 : decode cX6_init 65 = .ok (.invokespecial 36, 3) := by decide +kernel
theorem dX6_init_68 : decode cX6_init 68 = .ok (.aastore, 1) := by decide +kernel
theorem dX6_init_69 : decode cX6_init 69 = .ok (.iinc 1 1, 3) := by decide +kernel
theorem dX6_init_72 : decode cX6_init 72 = .ok (.goto (-25), 3) := by decide +kernel
theorem dX6_init_75 : decode cX6_init 75 = .ok (.return_, 1) := by decide +kernel
theorem dX6_part_0 : decode cX6_part 0 = .ok (.aload_n 0, 1) := by decide +kernel
theorem dX6_part_1 : decode cX6_part 1 = .ok (.iload_n 1, 1) := by decide +kernel
theorem dX6_part_2 : decode cX6_part 2 = .ok (.invokevirtual 37, 3) := by decide +kernel
theorem dX6_part_5 : decode cX6_part 5 = .ok (.astore 4, 2) := by decide +kernel
theorem dX6_part_7 : decode cX6_part 7 = .ok (.iload_n 2, 1) := by decide +kernel
theorem dX6_part_8 : decode cX6_part 8 = .ok (.iconst 0, 1) := by decide +kernel
theorem dX6_part_9 : decode cX6_part 9 = .ok (.bipush 9, 2) := by decide +kernel
theorem dX6_part_11 : decode cX6_part 11 = .ok (.invokestatic 41, 3) := by decide +kernel
theorem dX6_part_14 : decode cX6_part 14 = .ok (.ifCond .ne 12, 3) := by decide +kernel
theorem dX6_part_17 : decode cX6_part 17 = .ok (.iload_n 3, 1) := by decide +kernel
theorem dX6_part_18 : decode cX6_part 18 = .ok (.iconst 0, 1) := by decide +kernel
theorem dX6_part_19 : decode cX6_part 19 = .ok (.iconst 3, 1) := by decide +kernel
theorem dX6_part_20 : decode cX6_part 20 = .ok (.invokestatic 41, 3) := by decide +kernel
theorem dX6_part_23 : decode cX6_part 23 = .ok (.ifCond .eq 13, 3) := by decide +kernel
theorem dX6_part_26 : decode cX6_part 26 = .ok (.new 45, 3) := by decide +kernel
theorem dX6_part_29 : decode cX6_part 29 = .ok (.dup, 1) := by decide +kernel
theorem dX6_part_30 : decode cX6_part 30 = .ok (.ldc 47, 2) := by decide +kernel
theorem dX6_part_32 : decode cX6_part 32 = .ok (.invokespecial 49, 3) := by decide +kernel
theorem dX6_part_35 : decode cX6_part 35 = .ok (.athrow, 1) := by decide +kernel
theorem dX6_part_36 : decode cX6_part 36 = .ok (.aload_n 0, 1) := by decide +kernel
theorem dX6_part_37 : decode cX6_part 37 = .ok (.getfield 10, 3) := by decide +kernel
theorem dX6_part_40 : decode cX6_part 40 = .ok (.invokevirtual 52, 3) := by decide +kernel
theorem dX6_part_43 : decode cX6_part 43 = .ok (.istore 5, 2) := by decide +kernel
theorem dX6_part_45 : decode cX6_part 45 = .ok (.iload 5, 2) := by decide +kernel
theorem dX6_part_47 : decode cX6_part 47 = .ok (.bipush 60, 2) := by decide +kernel
theorem dX6_part_49 : decode cX6_part 49 = .ok (.if_icmp .lt 13, 3) := by decide +kernel
theorem dX6_part_52 : decode cX6_part 52 = .ok (.new 56, 3) := by decide +kernel
theorem dX6_part_55 : decode cX6_part 55 = .ok (.dup, 1) := by decide +kernel
theorem dX6_part_56 : decode cX6_part 56 = .ok (.ldc 58, 2) := by decide +kernel
theorem dX6_part_58 : decode cX6_part 58 = .ok (.invokespecial 60, 3) := by decide +kernel
theorem dX6_part_61 : decode cX6_part 61 = .ok (.athrow, 1) := by decide +kernel
theorem dX6_part_62 : decode cX6_part 62 = .ok (.aload_n 0, 1) := by decide +kernel
theorem dX6_part_63 : decode cX6_part 63 = .ok (.getfield 10, 3) := by decide +kernel
theorem dX6_part_66 : decode cX6_part 66 = .ok (.new 61, 3) := by decide +kernel
theorem dX6_part_69 : decode cX6_part 69 = .ok (.dup, 1) := by decide +kernel
theorem dX6_part_70 : decode cX6_part 70 = .ok (.iload 5, 2) := by decide +kernel
theorem dX6_part_72 : decode cX6_part 72 = .ok (.iload_n 1, 1) := by decide +kernel
theorem dX6_part_73 : decode cX6_part 73 = .ok (.iload_n 2, 1) := by decide +kernel
theorem dX6_part_74 : decode cX6_part 74 = .ok (.iload_n 3, 1) := by decide +kernel
theorem dX6_part_75 : decode cX6_part 75 = .ok (.aload 4, 2) := by decide +kernel
theorem dX6_part_77 : decode cX6_part 77 = .ok (.invokespecial 63, 3) := by decide +kernel
theorem dX6_part_80 : decode cX6_part 80 = .ok (.invokevirtual 66, 3) := by decide +kernel
theorem dX6_part_83 : decode cX6_part 83 = .ok (.pop, 1) := by decide +kernel
theorem dX6_part_84 : decode cX6_part 84 = .ok (.iload 5, 2) := by decide +kernel
theorem dX6_part_86 : decode cX6_part 86 = .ok (.ireturn, 1) := by decide +kernel
theorem dX6_limits_0 : decode cX6_limits 0 = .ok (.aload_n 0, 1) := by decide +kernel
theorem dX6_limits_1 : decode cX6_limits 1 = .ok (.iload_n 1, 1) := by decide +kernel
theorem dX6_limits_2 : decode cX6_limits 2 = .ok (.invokevirtual 37, 3) := by decide +kernel
theorem dX6_limits_5 : decode cX6_limits 5 = .ok (.astore 5, 2) := by decide +kernel
theorem dX6_limits_7 : decode cX6_limits 7 = .ok (.iload_n 2, 1) := by decide +kernel
theorem dX6_limits_8 : decode cX6_limits 8 = .ok (.iconst 0, 1) := by decide +kernel
theorem dX6_limits_9 : decode cX6_limits 9 = .ok (.ldc 70, 2) := by decide +kernel
theorem dX6_limits_11 : decode cX6_limits 11 = .ok (.invokestatic 41, 3) := by decide +kernel
theorem dX6_limits_14 : decode cX6_limits 14 = .ok (.ifCond .ne 24, 3) := by decide +kernel
theorem dX6_limits_17 : decode cX6_limits 17 = .ok (.iload_n 3, 1) := by decide +kernel
theorem dX6_limits_18 : decode cX6_limits 18 = .ok (.iconst 0, 1) := by decide +kernel
theorem dX6_limits_19 : decode cX6_limits 19 = .ok (.ldc 70, 2) := by decide +kernel
theorem dX6_limits_21 : decode cX6_limits 21 = .ok (.invokestatic 41, 3) := by decide +kernel
theorem dX6_limits_24 : decode cX6_limits 24 = .ok (.ifCond .ne 14, 3) := by decide +kernel
theorem dX6_limits_27 : decode cX6_limits 27 = .ok (.iload 4, 2) := by decide +kernel
theorem dX6_limits_29 : decode cX6_limits 29 = .ok (.iconst 0, 1) := by decide +kernel
theorem dX6_limits_30 : decode cX6_limits 30 = .ok (.ldc 70, 2) := by decide +kernel
theorem dX6_limits_32 : decode cX6_limits 32 = .ok (.invokestatic 41, 3) := by decide +kernel
theorem dX6_limits_35 : decode cX6_limits 35 = .ok (.ifCond .eq 13, 3) := by decide +kernel
theorem dX6_limits_38 : decode cX6_limits 38 = .ok (.new 45, 3) := by decide +kernel
theorem dX6_limits_41 : decode cX6_limits 41 = .ok (.dup, 1) := by decide +kernel
theorem dX6_limits_42 : decode cX6_limits 42 = .ok (.ldc 71, 2) := by decide +kernel
theorem dX6_limits_44 : decode cX6_limits 44 = .ok (.invokespecial 49, 3) := by decide +kernel
theorem dX6_limits_47 : decode cX6_limits 47 = .ok (.athrow, 1) := by decide +kernel
theorem dX6_limits_48 : decode cX6_limits 48 = .ok (.aload 5, 2) := by decide +kernel
theorem dX6_limits_50 : decode cX6_limits 50 = .ok (.getfield 73, 3) := by decide +kernel
theorem dX6_limits_53 : decode cX6_limits 53 = .ok (.istore 6, 2) := by decide +kernel
theorem dX6_limits_55 : decode cX6_limits 55 = .ok (.aload 5, 2) := by decide +kernel
theorem dX6_limits_57 : decode cX6_limits 57 = .ok (.iload_n 2, 1) := by decide +kernel
theorem dX6_limits_58 : decode cX6_limits 58 = .ok (.putfield 73, 3) := by decide +kernel
theorem dX6_limits_61 : decode cX6_limits 61 = .ok (.aload 5, 2) := by decide +kernel
theorem dX6_limits_63 : decode cX6_limits 63 = .ok (.iload_n 3, 1) := by decide +kernel
theorem dX6_limits_64 : decode cX6_limits 64 = .ok (.putfield 77, 3) := by decide +kernel
theorem dX6_limits_67 : decode cX6_limits 67 = .ok (.aload 5, 2) := by decide +kernel
theorem dX6_limits_69 : decode cX6_limits 69 = .ok (.iload 4, 2) := by decide +kernel
theorem dX6_limits_71 : decode cX6_limits 71 = .ok (.putfield 80, 3) := by decide +kernel
theorem dX6_limits_74 : decode cX6_limits 74 = .ok (.iload 6, 2) := by decide +kernel
theorem dX6_limits_76 : decode cX6_limits 76 = .ok (.ireturn, 1) := by decide +kernel
theorem dX6_fit_0 : decode cX6_fit 0 = .ok (.aload_n 0, 1) := by decide +kernel
theorem dX6_fit_1 : decode cX6_fit 1 = .ok (.iload_n 1, 1) := by decide +kernel
theorem dX6_fit_2 : decode cX6_fit 2 = .ok (.invokevirtual 83, 3) := by decide +kernel
theorem dX6_fit_5 : decode cX6_fit 5 = .ok (.astore_n 3, 1) := by decide +kernel
theorem dX6_fit_6 : decode cX6_fit 6 = .ok (.aload_n 0, 1) := by decide +kernel
theorem dX6_fit_7 : decode cX6_fit 7 = .ok (.iload_n 2, 1) := by decide +kernel
theorem dX6_fit_8 : decode cX6_fit 8 = .ok (.invokevirtual 83, 3) := by decide +kernel
theorem dX6_fit_11 : decode cX6_fit 11 = .ok (.astore 4, 2) := by decide +kernel
theorem dX6_fit_13 : decode cX6_fit 13 = .ok (.aload 4, 2) := by decide +kernel
theorem dX6_fit_15 : decode cX6_fit 15 = .ok (.getfield 87, 3) := by decide +kernel
theorem dX6_fit_18 : decode cX6_fit 18 = .ok (.aload_n 3, 1) := by decide +kernel
theorem dX6_fit_19 : decode cX6_fit 19 = .ok (.getfield 87, 3) := by decide +kernel
theorem dX6_fit_22 : decode cX6_fit 22 = .ok (.invokestatic 90, 3) := by decide +kernel
theorem dX6_fit_25 : decode cX6_fit 25 = .ok (.istore 5, 2) := by decide +kernel
theorem dX6_fit_27 : decode cX6_fit 27 = .ok (.iload 5, 2) := by decide +kernel
theorem dX6_fit_29 : decode cX6_fit 29 = .ok (.ifCond .ne 13, 3) := by decide +kernel
theorem dX6_fit_32 : decode cX6_fit 32 = .ok (.new 45, 3) := by decide +kernel
theorem dX6_fit_35 : decode cX6_fit 35 = .ok (.dup, 1) := by decide +kernel
theorem dX6_fit_36 : decode cX6_fit 36 = .ok (.ldc 94, 2) := by decide +kernel
theorem dX6_fit_38 : decode cX6_fit 38 = .ok (.invokespecial 49, 3) := by decide +kernel
theorem dX6_fit_41 : decode cX6_fit 41 = .ok (.athrow, 1) := by decide +kernel
theorem dX6_fit_42 : decode cX6_fit 42 = .ok (.aload_n 3, 1) := by decide +kernel
theorem dX6_fit_43 : decode cX6_fit 43 = .ok (.invokevirtual 96, 3) := by decide +kernel
theorem dX6_fit_46 : decode cX6_fit 46 = .ok (.ifCond .eq 10, 3) := by decide +kernel
theorem dX6_fit_49 : decode cX6_fit 49 = .ok (.aload_n 3, 1) := by decide +kernel
theorem dX6_fit_50 : decode cX6_fit 50 = .ok (.getfield 100, 3) := by decide +kernel
theorem dX6_fit_53 : decode cX6_fit 53 = .ok (.ifCond .eq 13, 3) := by decide +kernel
theorem dX6_fit_56 : decode cX6_fit 56 = .ok (.new 56, 3) := by decide +kernel
theorem dX6_fit_59 : decode cX6_fit 59 = .ok (.dup, 1) := by decide +kernel
theorem dX6_fit_60 : decode cX6_fit 60 = .ok (.ldc 104, 2) := by decide +kernel
theorem dX6_fit_62 : decode cX6_fit 62 = .ok (.invokespecial 60, 3) := by decide +kernel
theorem dX6_fit_65 : decode cX6_fit 65 = .ok (.athrow, 1) := by decide +kernel
theorem dX6_fit_66 : decode cX6_fit 66 = .ok (.aload 4, 2) := by decide +kernel
theorem dX6_fit_68 : decode cX6_fit 68 = .ok (.getfield 106, 3) := by decide +kernel
theorem dX6_fit_71 : decode cX6_fit 71 = .ok (.ifCond .ne 26, 3) := by decide +kernel
theorem dX6_fit_74 : decode cX6_fit 74 = .ok (.aload 4, 2) := by decide +kernel
theorem dX6_fit_76 : decode cX6_fit 76 = .ok (.invokevirtual 109, 3) := by decide +kernel
theorem dX6_fit_79 : decode cX6_fit 79 = .ok (.ifCond .ne 18, 3) := by decide +kernel
theorem dX6_fit_82 : decode cX6_fit 82 = .ok (.aload_n 0, 1) := by decide +kernel
theorem dX6_fit_83 : decode cX6_fit 83 = .ok (.aload 4, 2) := by decide +kernel
theorem dX6_fit_85 : decode cX6_fit 85 = .ok (.aload_n 3, 1) := by decide +kernel
theorem dX6_fit_86 : decode cX6_fit 86 = .ok (.getfield 87, 3) := by decide +kernel
theorem dX6_fit_89 : decode cX6_fit 89 = .ok (.invokevirtual 112, 3) := by decide +kernel
theorem dX6_fit_92 : decode cX6_fit 92 = .ok (.iload 5, 2) := by decide +kernel
theorem dX6_fit_94 : decode cX6_fit 94 = .ok (.if_icmp .lt 13, 3) := by decide +kernel
theorem dX6_fit_97 : decode cX6_fit 97 = .ok (.new 56, 3) := by decide +kernel
theorem dX6_fit_100 : decode cX6_fit 100 = .ok (.dup, 1) := by decide +kernel
theorem dX6_fit_101 : decode cX6_fit 101 = .ok (.ldc 116, 2) := by decide +kernel
theorem dX6_fit_103 : decode cX6_fit 103 = .ok (.invokespecial 60, 3) := by decide +kernel
theorem dX6_fit_106 : decode cX6_fit 106 = .ok (.athrow, 1) := by decide +kernel
theorem dX6_fit_107 : decode cX6_fit 107 = .ok (.aload_n 3, 1) := by decide +kernel
theorem dX6_fit_108 : decode cX6_fit 108 = .ok (.getfield 118, 3) := by decide +kernel
theorem dX6_fit_111 : decode cX6_fit 111 = .ok (.aload 4, 2) := by decide +kernel
theorem dX6_fit_113 : decode cX6_fit 113 = .ok (.getfield 118, 3) := by decide +kernel
theorem dX6_fit_116 : decode cX6_fit 116 = .ok (.isub, 1) := by decide +kernel
theorem dX6_fit_117 : decode cX6_fit 117 = .ok (.invokestatic 121, 3) := by decide +kernel
theorem dX6_fit_120 : decode cX6_fit 120 = .ok (.iconst 1, 1) := by decide +kernel
theorem dX6_fit_121 : decode cX6_fit 121 = .ok (.if_icmp .le 13, 3) := by decide +kernel
theorem dX6_fit_124 : decode cX6_fit 124 = .ok (.new 56, 3) := by decide +kernel
theorem dX6_fit_127 : decode cX6_fit 127 = .ok (.dup, 1) := by decide +kernel
theorem dX6_fit_128 : decode cX6_fit 128 = .ok (.ldc 127, 2) := by decide +kernel
theorem dX6_fit_130 : decode cX6_fit 130 = .ok (.invokespecial 60, 3) := by decide +kernel
theorem dX6_fit_133 : decode cX6_fit 133 = .ok (.athrow, 1) := by decide +kernel
theorem dX6_fit_134 : decode cX6_fit 134 = .ok (.aload_n 3, 1) := by decide +kernel
theorem dX6_fit_135 : decode cX6_fit 135 = .ok (.aload 4, 2) := by decide +kernel
theorem dX6_fit_137 : decode cX6_fit 137 = .ok (.putfield 129, 3) := by decide +kernel
theorem dX6_fit_140 : decode cX6_fit 140 = .ok (.aload_n 0, 1) := by decide +kernel
theorem dX6_fit_141 : decode cX6_fit 141 = .ok (.getfield 25, 3) := by decide +kernel
theorem dX6_fit_144 : decode cX6_fit 144 = .ok (.iload_n 1, 1) := by decide +kernel
theorem dX6_fit_145 : decode cX6_fit 145 = .ok (.iload_n 2, 1) := by decide +kernel
theorem dX6_fit_146 : decode cX6_fit 146 = .ok (.invokevirtual 133, 3) := by decide +kernel
theorem dX6_fit_149 : decode cX6_fit 149 = .ok (.aload 4, 2) := by decide +kernel
theorem dX6_fit_151 : decode cX6_fit 151 = .ok (.invokevirtual 137, 3) := by decide +kernel
theorem dX6_fit_154 : decode cX6_fit 154 = .ok (.iconst 0, 1) := by decide +kernel
theorem dX6_fit_155 : decode cX6_fit 155 = .ok (.putfield 141, 3) := by decide +kernel
theorem dX6_fit_158 : decode cX6_fit 158 = .ok (.aload_n 0, 1) := by decide +kernel
theorem dX6_fit_159 : decode cX6_fit 159 = .ok (.aload 4, 2) := by decide +kernel
theorem dX6_fit_161 : decode cX6_fit 161 = .ok (.invokevirtual 144, 3) := by decide +kernel
theorem dX6_fit_164 : decode cX6_fit 164 = .ok (.ireturn, 1) := by decide +kernel
theorem dX6_take_0 : decode cX6_take 0 = .ok (.aload_n 0, 1) := by decide +kernel
theorem dX6_take_1 : decode cX6_take 1 = .ok (.iload_n 1, 1) := by decide +kernel
theorem dX6_take_2 : decode cX6_take 2 = .ok (.invokevirtual 83, 3) := by decide +kernel
theorem dX6_take_5 : decode cX6_take 5 = .ok (.astore_n 2, 1) := by decide +kernel
theorem dX6_take_6 : decode cX6_take 6 = .ok (.aload_n 2, 1) := by decide +kernel
theorem dX6_take_7 : decode cX6_take 7 = .ok (.getfield 129, 3) := by decide +kernel
theorem dX6_take_10 : decode cX6_take 10 = .ok (.astore_n 3, 1) := by decide +kernel
theorem dX6_take_11 : decode cX6_take 11 = .ok (.aload_n 3, 1) := by decide +kernel
theorem dX6_take_12 : decode cX6_take 12 = .ok (.ifnull 10, 3) := by decide +kernel
theorem dX6_take_15 : decode cX6_take 15 = .ok (.aload_n 2, 1) := by decide +kernel
theorem dX6_take_16 : decode cX6_take 16 = .ok (.invokevirtual 109, 3) := by decide +kernel
theorem dX6_take_19 : decode cX6_take 19 = .ok (.ifCond .eq 13, 3) := by decide +kernel
theorem dX6_take_22 : decode cX6_take 22 = .ok (.new 56, 3) := by decide +kernel
theorem dX6_take_25 : decode cX6_take 25 = .ok (.dup, 1) := by decide +kernel
theorem dX6_take_26 : decode cX6_take 26 = .ok (.ldc 147, 2) := by decide +kernel
theorem dX6_take_28 : decode cX6_take 28 = .ok (.invokespecial 60, 3) := by decide +kernel
theorem dX6_take_31 : decode cX6_take 31 = .ok (.athrow, 1) := by decide +kernel
theorem dX6_take_32 : decode cX6_take 32 = .ok (.aload_n 3, 1) := by decide +kernel
theorem dX6_take_33 : decode cX6_take 33 = .ok (.invokevirtual 137, 3) := by decide +kernel
theorem dX6_take_36 : decode cX6_take 36 = .ok (.iconst 0, 1) := by decide +kernel
theorem dX6_take_37 : decode cX6_take 37 = .ok (.putfield 141, 3) := by decide +kernel
theorem dX6_take_40 : decode cX6_take 40 = .ok (.aload_n 2, 1) := by decide +kernel
theorem dX6_take_41 : decode cX6_take 41 = .ok (.aconst_null, 1) := by decide +kernel
theorem dX6_take_42 : decode cX6_take 42 = .ok (.putfield 129, 3) := by decide +kernel
theorem dX6_take_45 : decode cX6_take 45 = .ok (.aload_n 0, 1) := by decide +kernel
theorem dX6_take_46 : decode cX6_take 46 = .ok (.getfield 25, 3) := by decide +kernel
theorem dX6_take_49 : decode cX6_take 49 = .ok (.iload_n 1, 1) := by decide +kernel
theorem dX6_take_50 : decode cX6_take 50 = .ok (.iconst (-1), 1) := by decide +kernel
theorem dX6_take_51 : decode cX6_take 51 = .ok (.invokevirtual 133, 3) := by decide +kernel
theorem dX6_take_54 : decode cX6_take 54 = .ok (.aload_n 3, 1) := by decide +kernel
theorem dX6_take_55 : decode cX6_take 55 = .ok (.getfield 149, 3) := by decide +kernel
theorem dX6_take_58 : decode cX6_take 58 = .ok (.ireturn, 1) := by decide +kernel
theorem dX6_scrap_0 : decode cX6_scrap 0 = .ok (.aload_n 0, 1) := by decide +kernel
theorem dX6_scrap_1 : decode cX6_scrap 1 = .ok (.iload_n 1, 1) := by decide +kernel
theorem dX6_scrap_2 : decode cX6_scrap 2 = .ok (.invokevirtual 83, 3) := by decide +kernel
theorem dX6_scrap_5 : decode cX6_scrap 5 = .ok (.astore_n 2, 1) := by decide +kernel
theorem dX6_scrap_6 : decode cX6_scrap 6 = .ok (.aload_n 2, 1) := by decide +kernel
theorem dX6_scrap_7 : decode cX6_scrap 7 = .ok (.invokevirtual 96, 3) := by decide +kernel
theorem dX6_scrap_10 : decode cX6_scrap 10 = .ok (.ifCond .eq 11, 3) := by decide +kernel
theorem dX6_scrap_13 : decode cX6_scrap 13 = .ok (.aload_n 0, 1) := by decide +kernel
theorem dX6_scrap_14 : decode cX6_scrap 14 = .ok (.aload_n 2, 1) := by decide +kernel
theorem dX6_scrap_15 : decode cX6_scrap 15 = .ok (.invokevirtual 144, 3) := by decide +kernel
theorem dX6_scrap_18 : decode cX6_scrap 18 = .ok (.ifCond .le 13, 3) := by decide +kernel
theorem dX6_scrap_21 : decode cX6_scrap 21 = .ok (.new 56, 3) := by decide +kernel
theorem dX6_scrap_24 : decode cX6_scrap 24 = .ok (.dup, 1) := by decide +kernel
theorem dX6_scrap_25 : decode cX6_scrap 25 = .ok (.ldc 152, 2) := by decide +kernel
theorem dX6_scrap_27 : decode cX6_scrap 27 = .ok (.invokespecial 60, 3) := by decide +kernel
theorem dX6_scrap_30 : decode cX6_scrap 30 = .ok (.athrow, 1) := by decide +kernel
theorem dX6_scrap_31 : decode cX6_scrap 31 = .ok (.aload_n 2, 1) := by decide +kernel
theorem dX6_scrap_32 : decode cX6_scrap 32 = .ok (.invokevirtual 109, 3) := by decide +kernel
theorem dX6_scrap_35 : decode cX6_scrap 35 = .ok (.ifCond .ne 14, 3) := by decide +kernel
theorem dX6_scrap_38 : decode cX6_scrap 38 = .ok (.aload_n 0, 1) := by decide +kernel
theorem dX6_scrap_39 : decode cX6_scrap 39 = .ok (.getfield 32, 3) := by decide +kernel
theorem dX6_scrap_42 : decode cX6_scrap 42 = .ok (.aload_n 2, 1) := by decide +kernel
theorem dX6_scrap_43 : decode cX6_scrap 43 = .ok (.invokevirtual 154, 3) := by decide +kernel
theorem dX6_scrap_46 : decode cX6_scrap 46 = .ok (.ifCond .eq 13, 3) := by decide +kernel
theorem dX6_scrap_49 : decode cX6_scrap 49 = .ok (.new 56, 3) := by decide +kernel
theorem dX6_scrap_52 : decode cX6_scrap 52 = .ok (.dup, 1) := by decide +kernel
theorem dX6_scrap_53 : decode cX6_scrap 53 = .ok (.ldc 158, 2) := by decide +kernel
theorem dX6_scrap_55 : decode cX6_scrap 55 = .ok (.invokespecial 60, 3) := by decide +kernel
theorem dX6_scrap_58 : decode cX6_scrap 58 = .ok (.athrow, 1) := by decide +kernel
theorem dX6_scrap_59 : decode cX6_scrap 59 = .ok (.aload_n 2, 1) := by decide +kernel
theorem dX6_scrap_60 : decode cX6_scrap 60 = .ok (.iconst 1, 1) := by decide +kernel
theorem dX6_scrap_61 : decode cX6_scrap 61 = .ok (.putfield 106, 3) := by decide +kernel
theorem dX6_scrap_64 : decode cX6_scrap 64 = .ok (.aload_n 0, 1) := by decide +kernel
theorem dX6_scrap_65 : decode cX6_scrap 65 = .ok (.getfield 25, 3) := by decide +kernel
theorem dX6_scrap_68 : decode cX6_scrap 68 = .ok (.iload_n 1, 1) := by decide +kernel
theorem dX6_scrap_69 : decode cX6_scrap 69 = .ok (.bipush (-2), 2) := by decide +kernel
theorem dX6_scrap_71 : decode cX6_scrap 71 = .ok (.invokevirtual 133, 3) := by decide +kernel
theorem dX6_scrap_74 : decode cX6_scrap 74 = .ok (.return_, 1) := by decide +kernel
theorem dX6_run_0 : decode cX6_run 0 = .ok (.aload_n 0, 1) := by decide +kernel
theorem dX6_run_1 : decode cX6_run 1 = .ok (.iload_n 1, 1) := by decide +kernel
theorem dX6_run_2 : decode cX6_run 2 = .ok (.invokevirtual 160, 3) := by decide +kernel
theorem dX6_run_5 : decode cX6_run 5 = .ok (.astore 4, 2) := by decide +kernel
theorem dX6_run_7 : decode cX6_run 7 = .ok (.iload_n 2, 1) := by decide +kernel
theorem dX6_run_8 : decode cX6_run 8 = .ok (.iload_n 3, 1) := by decide +kernel
theorem dX6_run_9 : decode cX6_run 9 = .ok (.invokestatic 163, 3) := by decide +kernel
theorem dX6_run_12 : decode cX6_run 12 = .ok (.aload 4, 2) := by decide +kernel
theorem dX6_run_14 : decode cX6_run 14 = .ok (.getfield 141, 3) := by decide +kernel
theorem dX6_run_17 : decode cX6_run 17 = .ok (.ifCond .eq 11, 3) := by decide +kernel
theorem dX6_run_20 : decode cX6_run 20 = .ok (.aload 4, 2) := by decide +kernel
theorem dX6_run_22 : decode cX6_run 22 = .ok (.invokevirtual 109, 3) := by decide +kernel
theorem dX6_run_25 : decode cX6_run 25 = .ok (.ifCond .eq 13, 3) := by decide +kernel
theorem dX6_run_28 : decode cX6_run 28 = .ok (.new 56, 3) := by decide +kernel
theorem dX6_run_31 : decode cX6_run 31 = .ok (.dup, 1) := by decide +kernel
theorem dX6_run_32 : decode cX6_run 32 = .ok (.ldc 166, 2) := by decide +kernel
theorem dX6_run_34 : decode cX6_run 34 = .ok (.invokespecial 60, 3) := by decide +kernel
theorem dX6_run_37 : decode cX6_run 37 = .ok (.athrow, 1) := by decide +kernel
theorem dX6_run_38 : decode cX6_run 38 = .ok (.aload 4, 2) := by decide +kernel
theorem dX6_run_40 : decode cX6_run 40 = .ok (.iconst 0, 1) := by decide +kernel
theorem dX6_run_41 : decode cX6_run 41 = .ok (.putfield 141, 3) := by decide +kernel
theorem dX6_run_44 : decode cX6_run 44 = .ok (.aload_n 0, 1) := by decide +kernel
theorem dX6_run_45 : decode cX6_run 45 = .ok (.getfield 25, 3) := by decide +kernel
theorem dX6_run_48 : decode cX6_run 48 = .ok (.iload_n 1, 1) := by decide +kernel
theorem dX6_run_49 : decode cX6_run 49 = .ok (.iload_n 2, 1) := by decide +kernel
theorem dX6_run_50 : decode cX6_run 50 = .ok (.invokevirtual 168, 3) := by decide +kernel
theorem dX6_run_53 : decode cX6_run 53 = .ok (.iconst (-1), 1) := by decide +kernel
theorem dX6_run_54 : decode cX6_run 54 = .ok (.istore 5, 2) := by decide +kernel
theorem dX6_run_56 : decode cX6_run 56 = .ok (.iconst 0, 1) := by decide +kernel
theorem dX6_run_57 : decode cX6_run 57 = .ok (.istore 6, 2) := by decide +kernel
theorem dX6_run_59 : decode cX6_run 59 = .ok (.iload 6, 2) := by decide +kernel
theorem dX6_run_61 : decode cX6_run 61 = .ok (.aload_n 0, 1) := by decide +kernel
theorem dX6_run_62 : decode cX6_run 62 = .ok (.getfield 10, 3) := by decide +kernel
theorem dX6_run_65 : decode cX6_run 65 = .ok (.invokevirtual 52, 3) := by decide +kernel
theorem dX6_run_68 : decode cX6_run 68 = .ok (.if_icmp .ge 65, 3) := by decide +kernel
theorem dX6_run_71 : decode cX6_run 71 = .ok (.aload_n 0, 1) := by decide +kernel
theorem dX6_run_72 : decode cX6_run 72 = .ok (.getfield 10, 3) := by decide +kernel
theorem dX6_run_75 : decode cX6_run 75 = .ok (.iload 6, 2) := by decide +kernel
theorem dX6_run_77 : decode cX6_run 77 = .ok (.invokevirtual 171, 3) := by decide +kernel
theorem dX6_run_80 : decode cX6_run 80 = .ok (.checkcast 61, 3) := by decide +kernel
theorem dX6_run_83 : decode cX6_run 83 = .ok (.astore 7, 2) := by decide +kernel
theorem dX6_run_85 : decode cX6_run 85 = .ok (.aload 7, 2) := by decide +kernel
theorem dX6_run_87 : decode cX6_run 87 = .ok (.invokevirtual 137, 3) := by decide +kernel
theorem dX6_run_90 : decode cX6_run 90 = .ok (.aload 4, 2) := by decide +kernel
theorem dX6_run_92 : decode cX6_run 92 = .ok (.if_acmp .ne 35, 3) := by decide +kernel
theorem dX6_run_95 : decode cX6_run 95 = .ok (.aload 7, 2) := by decide +kernel
theorem dX6_run_97 : decode cX6_run 97 = .ok (.iload_n 2, 1) := by decide +kernel
theorem dX6_run_98 : decode cX6_run 98 = .ok (.iload_n 2, 1) := by decide +kernel
theorem dX6_run_99 : decode cX6_run 99 = .ok (.iload_n 3, 1) := by decide +kernel
theorem dX6_run_100 : decode cX6_run 100 = .ok (.invokestatic 175, 3) := by decide +kernel
theorem dX6_run_103 : decode cX6_run 103 = .ok (.imul, 1) := by decide +kernel
theorem dX6_run_104 : decode cX6_run 104 = .ok (.invokevirtual 178, 3) := by decide +kernel
theorem dX6_run_107 : decode cX6_run 107 = .ok (.iload 5, 2) := by decide +kernel
theorem dX6_run_109 : decode cX6_run 109 = .ok (.iconst (-1), 1) := by decide +kernel
theorem dX6_run_110 : decode cX6_run 110 = .ok (.if_icmp .ne 17, 3) := by decide +kernel
theorem dX6_run_113 : decode cX6_run 113 = .ok (.aload 7, 2) := by decide +kernel
theorem dX6_run_115 : decode cX6_run 115 = .ok (.getfield 181, 3) := by decide +kernel
theorem dX6_run_118 : decode cX6_run 118 = .ok (.bipush 100, 2) := by decide +kernel
theorem dX6_run_120 : decode cX6_run 120 = .ok (.if_icmp .lt 7, 3) := by decide +kernel
theorem dX6_run_123 : decode cX6_run 123 = .ok (.iload 6, 2) := by decide +kernel
theorem dX6_run_125 : decode cX6_run 125 = .ok (.istore 5, 2) := by decide +kernel
theorem dX6_run_127 : decode cX6_run 127 = .ok (.iinc 6 1, 3) := by decide +kernel
theorem dX6_run_130 : decode cX6_run 130 = .ok (.goto (-71), 3) := by decide +kernel
theorem dX6_run_133 : decode cX6_run 133 = .ok (.iload 5, 2) := by decide +kernel
theorem dX6_run_135 : decode cX6_run 135 = .ok (.iconst (-1), 1) := by decide +kernel
theorem dX6_run_136 : decode cX6_run 136 = .ok (.if_icmp .eq 9, 3) := by decide +kernel
theorem dX6_run_139 : decode cX6_run 139 = .ok (.aload_n 0, 1) := by decide +kernel
theorem dX6_run_140 : decode cX6_run 140 = .ok (.aload 4, 2) := by decide +kernel
theorem dX6_run_142 : decode cX6_run 142 = .ok (.invokevirtual 184, 3) := by decide +kernel
theorem dX6_run_145 : decode cX6_run 145 = .ok (.iload 5, 2) := by decide +kernel
theorem dX6_run_147 : decode cX6_run 147 = .ok (.ireturn, 1) := by decide +kernel
theorem dX6_turn_0 : decode cX6_turn 0 = .ok (.aload_n 0, 1) := by decide +kernel
theorem dX6_turn_1 : decode cX6_turn 1 = .ok (.iload_n 1, 1) := by decide +kernel
theorem dX6_turn_2 : decode cX6_turn 2 = .ok (.invokevirtual 83, 3) := by decide +kernel
theorem dX6_turn_5 : decode cX6_turn 5 = .ok (.astore_n 2, 1) := by decide +kernel
theorem dX6_turn_6 : decode cX6_turn 6 = .ok (.aload_n 2, 1) := by decide +kernel
theorem dX6_turn_7 : decode cX6_turn 7 = .ok (.getfield 87, 3) := by decide +kernel
theorem dX6_turn_10 : decode cX6_turn 10 = .ok (.iconst 2, 1) := by decide +kernel
theorem dX6_turn_11 : decode cX6_turn 11 = .ok (.if_icmp .eq 13, 3) := by decide +kernel
theorem dX6_turn_14 : decode cX6_turn 14 = .ok (.new 45, 3) := by decide +kernel
theorem dX6_turn_17 : decode cX6_turn 17 = .ok (.dup, 1) := by decide +kernel
theorem dX6_turn_18 : decode cX6_turn 18 = .ok (.ldc 188, 2) := by decide +kernel
theorem dX6_turn_20 : decode cX6_turn 20 = .ok (.invokespecial 49, 3) := by decide +kernel
theorem dX6_turn_23 : decode cX6_turn 23 = .ok (.athrow, 1) := by decide +kernel
theorem dX6_turn_24 : decode cX6_turn 24 = .ok (.aload_n 0, 1) := by decide +kernel
theorem dX6_turn_25 : decode cX6_turn 25 = .ok (.aload_n 2, 1) := by decide +kernel
theorem dX6_turn_26 : decode cX6_turn 26 = .ok (.iconst 0, 1) := by decide +kernel
theorem dX6_turn_27 : decode cX6_turn 27 = .ok (.invokevirtual 190, 3) := by decide +kernel
theorem dX6_turn_30 : decode cX6_turn 30 = .ok (.astore_n 3, 1) := by decide +kernel
theorem dX6_turn_31 : decode cX6_turn 31 = .ok (.aload_n 0, 1) := by decide +kernel
theorem dX6_turn_32 : decode cX6_turn 32 = .ok (.aload_n 2, 1) := by decide +kernel
theorem dX6_turn_33 : decode cX6_turn 33 = .ok (.iconst 1, 1) := by decide +kernel
theorem dX6_turn_34 : decode cX6_turn 34 = .ok (.invokevirtual 190, 3) := by decide +kernel
theorem dX6_turn_37 : decode cX6_turn 37 = .ok (.astore 4, 2) := by decide +kernel
theorem dX6_turn_39 : decode cX6_turn 39 = .ok (.aload_n 3, 1) := by decide +kernel
theorem dX6_turn_40 : decode cX6_turn 40 = .ok (.ifnull 15, 3) := by decide +kernel
theorem dX6_turn_43 : decode cX6_turn 43 = .ok (.aload 4, 2) := by decide +kernel
theorem dX6_turn_45 : decode cX6_turn 45 = .ok (.ifnull 10, 3) := by decide +kernel
theorem dX6_turn_48 : decode cX6_turn 48 = .ok (.aload_n 2, 1) := by decide +kernel
theorem dX6_turn_49 : decode cX6_turn 49 = .ok (.invokevirtual 109, 3) := by decide +kernel
theorem dX6_turn_52 : decode cX6_turn 52 = .ok (.ifCond .eq 13, 3) := by decide +kernel
theorem dX6_turn_55 : decode cX6_turn 55 = .ok (.new 56, 3) := by decide +kernel
theorem dX6_turn_58 : decode cX6_turn 58 = .ok (.dup, 1) := by decide +kernel
theorem dX6_turn_59 : decode cX6_turn 59 = .ok (.ldc 194, 2) := by decide +kernel
theorem dX6_turn_61 : decode cX6_turn 61 = .ok (.invokespecial 60, 3) := by decide +kernel
theorem dX6_turn_64 : decode cX6_turn 64 = .ok (.athrow, 1) := by decide +kernel
theorem dX6_turn_65 : decode cX6_turn 65 = .ok (.aload_n 3, 1) := by decide +kernel
theorem dX6_turn_66 : decode cX6_turn 66 = .ok (.getfield 196, 3) := by decide +kernel
theorem dX6_turn_69 : decode cX6_turn 69 = .ok (.aload 4, 2) := by decide +kernel
theorem dX6_turn_71 : decode cX6_turn 71 = .ok (.getfield 196, 3) := by decide +kernel
theorem dX6_turn_74 : decode cX6_turn 74 = .ok (.iadd, 1) := by decide +kernel
theorem dX6_turn_75 : decode cX6_turn 75 = .ok (.istore 5, 2) := by decide +kernel
theorem dX6_turn_77 : decode cX6_turn 77 = .ok (.aload_n 3, 1) := by decide +kernel
theorem dX6_turn_78 : decode cX6_turn 78 = .ok (.invokevirtual 201, 3) := by decide +kernel
theorem dX6_turn_81 : decode cX6_turn 81 = .ok (.aload 4, 2) := by decide +kernel
theorem dX6_turn_83 : decode cX6_turn 83 = .ok (.invokevirtual 201, 3) := by decide +kernel
theorem dX6_turn_86 : decode cX6_turn 86 = .ok (.aload_n 3, 1) := by decide +kernel
theorem dX6_turn_87 : decode cX6_turn 87 = .ok (.getfield 196, 3) := by decide +kernel
theorem dX6_turn_90 : decode cX6_turn 90 = .ok (.aload 4, 2) := by decide +kernel
theorem dX6_turn_92 : decode cX6_turn 92 = .ok (.getfield 196, 3) := by decide +kernel
theorem dX6_turn_95 : decode cX6_turn 95 = .ok (.invokestatic 204, 3) := by decide +kernel
theorem dX6_turn_98 : decode cX6_turn 98 = .ok (.istore 6, 2) := by decide +kernel
theorem dX6_turn_100 : decode cX6_turn 100 = .ok (.aload_n 3, 1) := by decide +kernel
theorem dX6_turn_101 : decode cX6_turn 101 = .ok (.iload 6, 2) := by decide +kernel
theorem dX6_turn_103 : decode cX6_turn 103 = .ok (.putfield 196, 3) := by decide +kernel
theorem dX6_turn_106 : decode cX6_turn 106 = .ok (.aload 4, 2) := by decide +kernel
theorem dX6_turn_108 : decode cX6_turn 108 = .ok (.iload 6, 2) := by decide +kernel
theorem dX6_turn_110 : decode cX6_turn 110 = .ok (.putfield 196, 3) := by decide +kernel
theorem dX6_turn_113 : decode cX6_turn 113 = .ok (.iload 5, 2) := by decide +kernel
theorem dX6_turn_115 : decode cX6_turn 115 = .ok (.iconst 2, 1) := by decide +kernel
theorem dX6_turn_116 : decode cX6_turn 116 = .ok (.iload 6, 2) := by decide +kernel
theorem dX6_turn_118 : decode cX6_turn 118 = .ok (.imul, 1) := by decide +kernel
theorem dX6_turn_119 : decode cX6_turn 119 = .ok (.isub, 1) := by decide +kernel
theorem dX6_turn_120 : decode cX6_turn 120 = .ok (.ireturn, 1) := by decide +kernel
theorem dX6_gate_0 : decode cX6_gate 0 = .ok (.aload_n 0, 1) := by decide +kernel
theorem dX6_gate_1 : decode cX6_gate 1 = .ok (.iload_n 1, 1) := by decide +kernel
theorem dX6_gate_2 : decode cX6_gate 2 = .ok (.invokevirtual 207, 3) := by decide +kernel
theorem dX6_gate_5 : decode cX6_gate 5 = .ok (.astore_n 3, 1) := by decide +kernel
theorem dX6_gate_6 : decode cX6_gate 6 = .ok (.iload_n 2, 1) := by decide +kernel
theorem dX6_gate_7 : decode cX6_gate 7 = .ok (.bipush (-5), 2) := by decide +kernel
theorem dX6_gate_9 : decode cX6_gate 9 = .ok (.iconst 5, 1) := by decide +kernel
theorem dX6_gate_10 : decode cX6_gate 10 = .ok (.invokestatic 41, 3) := by decide +kernel
theorem dX6_gate_13 : decode cX6_gate 13 = .ok (.ifCond .eq 13, 3) := by decide +kernel
theorem dX6_gate_16 : decode cX6_gate 16 = .ok (.new 45, 3) := by decide +kernel
theorem dX6_gate_19 : decode cX6_gate 19 = .ok (.dup, 1) := by decide +kernel
theorem dX6_gate_20 : decode cX6_gate 20 = .ok (.ldc 211, 2) := by decide +kernel
theorem dX6_gate_22 : decode cX6_gate 22 = .ok (.invokespecial 49, 3) := by decide +kernel
theorem dX6_gate_25 : decode cX6_gate 25 = .ok (.athrow, 1) := by decide +kernel
theorem dX6_gate_26 : decode cX6_gate 26 = .ok (.aload_n 3, 1) := by decide +kernel
theorem dX6_gate_27 : decode cX6_gate 27 = .ok (.aload_n 3, 1) := by decide +kernel
theorem dX6_gate_28 : decode cX6_gate 28 = .ok (.getfield 213, 3) := by decide +kernel
theorem dX6_gate_31 : decode cX6_gate 31 = .ok (.iload_n 2, 1) := by decide +kernel
theorem dX6_gate_32 : decode cX6_gate 32 = .ok (.iadd, 1) := by decide +kernel
theorem dX6_gate_33 : decode cX6_gate 33 = .ok (.putfield 216, 3) := by decide +kernel
theorem dX6_gate_36 : decode cX6_gate 36 = .ok (.aload_n 3, 1) := by decide +kernel
theorem dX6_gate_37 : decode cX6_gate 37 = .ok (.getfield 216, 3) := by decide +kernel
theorem dX6_gate_40 : decode cX6_gate 40 = .ok (.ireturn, 1) := by decide +kernel
theorem dX6_examine_0 : decode cX6_examine 0 = .ok (.aload_n 0, 1) := by decide +kernel
theorem dX6_examine_1 : decode cX6_examine 1 = .ok (.iload_n 1, 1) := by decide +kernel
theorem dX6_examine_2 : decode cX6_examine 2 = .ok (.invokevirtual 83, 3) := by decide +kernel
theorem dX6_examine_5 : decode cX6_examine 5 = .ok (.astore_n 2, 1) := by decide +kernel
theorem dX6_examine_6 : decode cX6_examine 6 = .ok (.aload_n 2, 1) := by decide +kernel
theorem dX6_examine_7 : decode cX6_examine 7 = .ok (.invokevirtual 219, 3) := by decide +kernel
theorem dX6_examine_10 : decode cX6_examine 10 = .ok (.ifCond .eq 17, 3) := by decide +kernel
theorem dX6_examine_13 : decode cX6_examine 13 = .ok (.aload_n 2, 1) := by decide +kernel
theorem dX6_examine_14 : decode cX6_examine 14 = .ok (.getfield 106, 3) := by decide +kernel
theorem dX6_examine_17 : decode cX6_examine 17 = .ok (.ifCond .ne 10, 3) := by decide +kernel
theorem dX6_examine_20 : decode cX6_examine 20 = .ok (.aload_n 2, 1) := by decide +kernel
theorem dX6_examine_21 : decode cX6_examine 21 = .ok (.invokevirtual 109, 3) := by decide +kernel
theorem dX6_examine_24 : decode cX6_examine 24 = .ok (.ifCond .eq 13, 3) := by decide +kernel
theorem dX6_examine_27 : decode cX6_examine 27 = .ok (.new 56, 3) := by decide +kernel
theorem dX6_examine_30 : decode cX6_examine 30 = .ok (.dup, 1) := by decide +kernel
theorem dX6_examine_31 : decode cX6_examine 31 = .ok (.ldc 222, 2) := by decide +kernel
theorem dX6_examine_33 : decode cX6_examine 33 = .ok (.invokespecial 60, 3) := by decide +kernel
theorem dX6_examine_36 : decode cX6_examine 36 = .ok (.athrow, 1) := by decide +kernel
theorem dX6_examine_37 : decode cX6_examine 37 = .ok (.aload_n 2, 1) := by decide +kernel
theorem dX6_examine_38 : decode cX6_examine 38 = .ok (.getfield 224, 3) := by decide +kernel
theorem dX6_examine_41 : decode cX6_examine 41 = .ok (.istore_n 3, 1) := by decide +kernel
theorem dX6_examine_42 : decode cX6_examine 42 = .ok (.aload_n 2, 1) := by decide +kernel
theorem dX6_examine_43 : decode cX6_examine 43 = .ok (.iconst 0, 1) := by decide +kernel
theorem dX6_examine_44 : decode cX6_examine 44 = .ok (.putfield 224, 3) := by decide +kernel
theorem dX6_examine_47 : decode cX6_examine 47 = .ok (.aload_n 2, 1) := by decide +kernel
theorem dX6_examine_48 : decode cX6_examine 48 = .ok (.iconst 0, 1) := by decide +kernel
theorem dX6_examine_49 : decode cX6_examine 49 = .ok (.putfield 227, 3) := by decide +kernel
theorem dX6_examine_52 : decode cX6_examine 52 = .ok (.iload_n 3, 1) := by decide +kernel
theorem dX6_examine_53 : decode cX6_examine 53 = .ok (.ireturn, 1) := by decide +kernel
theorem dX6_waive_0 : decode cX6_waive 0 = .ok (.aload_n 0, 1) := by decide +kernel
theorem dX6_waive_1 : decode cX6_waive 1 = .ok (.iload_n 1, 1) := by decide +kernel
theorem dX6_waive_2 : decode cX6_waive 2 = .ok (.invokevirtual 83, 3) := by decide +kernel
theorem dX6_waive_5 : decode cX6_waive 5 = .ok (.astore_n 3, 1) := by decide +kernel
theorem dX6_waive_6 : decode cX6_waive 6 = .ok (.iload_n 2, 1) := by decide +kernel
theorem dX6_waive_7 : decode cX6_waive 7 = .ok (.iconst 1, 1) := by decide +kernel
theorem dX6_waive_8 : decode cX6_waive 8 = .ok (.sipush 999, 3) := by decide +kernel
theorem dX6_waive_11 : decode cX6_waive 11 = .ok (.invokestatic 41, 3) := by decide +kernel
theorem dX6_waive_14 : decode cX6_waive 14 = .ok (.ifCond .eq 13, 3) := by decide +kernel
theorem dX6_waive_17 : decode cX6_waive 17 = .ok (.new 45, 3) := by decide +kernel
theorem dX6_waive_20 : decode cX6_waive 20 = .ok (.dup, 1) := by decide +kernel
theorem dX6_waive_21 : decode cX6_waive 21 = .ok (.ldc 230, 2) := by decide +kernel
theorem dX6_waive_23 : decode cX6_waive 23 = .ok (.invokespecial 49, 3) := by decide +kernel
theorem dX6_waive_26 : decode cX6_waive 26 = .ok (.athrow, 1) := by decide +kernel
theorem dX6_waive_27 : decode cX6_waive 27 = .ok (.aload_n 3, 1) := by decide +kernel
theorem dX6_waive_28 : decode cX6_waive 28 = .ok (.getfield 232, 3) := by decide +kernel
theorem dX6_waive_31 : decode cX6_waive 31 = .ok (.getfield 77, 3) := by decide +kernel
theorem dX6_waive_34 : decode cX6_waive 34 = .ok (.ifCond .eq 10, 3) := by decide +kernel
theorem dX6_waive_37 : decode cX6_waive 37 = .ok (.aload_n 3, 1) := by decide +kernel
theorem dX6_waive_38 : decode cX6_waive 38 = .ok (.getfield 227, 3) := by decide +kernel
theorem dX6_waive_41 : decode cX6_waive 41 = .ok (.ifCond .le 13, 3) := by decide +kernel
theorem dX6_waive_44 : decode cX6_waive 44 = .ok (.new 56, 3) := by decide +kernel
theorem dX6_waive_47 : decode cX6_waive 47 = .ok (.dup, 1) := by decide +kernel
theorem dX6_waive_48 : decode cX6_waive 48 = .ok (.ldc 236, 2) := by decide +kernel
theorem dX6_waive_50 : decode cX6_waive 50 = .ok (.invokespecial 60, 3) := by decide +kernel
theorem dX6_waive_53 : decode cX6_waive 53 = .ok (.athrow, 1) := by decide +kernel
theorem dX6_waive_54 : decode cX6_waive 54 = .ok (.aload_n 3, 1) := by decide +kernel
theorem dX6_waive_55 : decode cX6_waive 55 = .ok (.iload_n 2, 1) := by decide +kernel
theorem dX6_waive_56 : decode cX6_waive 56 = .ok (.putfield 227, 3) := by decide +kernel
theorem dX6_waive_59 : decode cX6_waive 59 = .ok (.return_, 1) := by decide +kernel
theorem dX6_flaw_0 : decode cX6_flaw 0 = .ok (.aload_n 0, 1) := by decide +kernel
theorem dX6_flaw_1 : decode cX6_flaw 1 = .ok (.iload_n 1, 1) := by decide +kernel
theorem dX6_flaw_2 : decode cX6_flaw 2 = .ok (.invokevirtual 83, 3) := by decide +kernel
theorem dX6_flaw_5 : decode cX6_flaw 5 = .ok (.astore_n 3, 1) := by decide +kernel
theorem dX6_flaw_6 : decode cX6_flaw 6 = .ok (.aload_n 3, 1) := by decide +kernel
theorem dX6_flaw_7 : decode cX6_flaw 7 = .ok (.getfield 87, 3) := by decide +kernel
theorem dX6_flaw_10 : decode cX6_flaw 10 = .ok (.iconst 3, 1) := by decide +kernel
theorem dX6_flaw_11 : decode cX6_flaw 11 = .ok (.if_icmp .eq 21, 3) := by decide +kernel
theorem dX6_flaw_14 : decode cX6_flaw 14 = .ok (.aload_n 3, 1) := by decide +kernel
theorem dX6_flaw_15 : decode cX6_flaw 15 = .ok (.getfield 87, 3) := by decide +kernel
theorem dX6_flaw_18 : decode cX6_flaw 18 = .ok (.iconst 4, 1) := by decide +kernel
theorem dX6_flaw_19 : decode cX6_flaw 19 = .ok (.if_icmp .eq 13, 3) := by decide +kernel
theorem dX6_flaw_22 : decode cX6_flaw 22 = .ok (.new 45, 3) := by decide +kernel
theorem dX6_flaw_25 : decode cX6_flaw 25 = .ok (.dup, 1) := by decide +kernel
theorem dX6_flaw_26 : decode cX6_flaw 26 = .ok (.ldc 238, 2) := by decide +kernel
theorem dX6_flaw_28 : decode cX6_flaw 28 = .ok (.invokespecial 49, 3) := by decide +kernel
theorem dX6_flaw_31 : decode cX6_flaw 31 = .ok (.athrow, 1) := by decide +kernel
theorem dX6_flaw_32 : decode cX6_flaw 32 = .ok (.iload_n 2, 1) := by decide +kernel
theorem dX6_flaw_33 : decode cX6_flaw 33 = .ok (.iconst 1, 1) := by decide +kernel
theorem dX6_flaw_34 : decode cX6_flaw 34 = .ok (.bipush 99, 2) := by decide +kernel
theorem dX6_flaw_36 : decode cX6_flaw 36 = .ok (.invokestatic 41, 3) := by decide +kernel
theorem dX6_flaw_39 : decode cX6_flaw 39 = .ok (.ifCond .eq 13, 3) := by decide +kernel
theorem dX6_flaw_42 : decode cX6_flaw 42 = .ok (.new 45, 3) := by decide +kernel
theorem dX6_flaw_45 : decode cX6_flaw 45 = .ok (.dup, 1) := by decide +kernel
theorem dX6_flaw_46 : decode cX6_flaw 46 = .ok (.ldc 240, 2) := by decide +kernel
theorem dX6_flaw_48 : decode cX6_flaw 48 = .ok (.invokespecial 49, 3) := by decide +kernel
theorem dX6_flaw_51 : decode cX6_flaw 51 = .ok (.athrow, 1) := by decide +kernel
theorem dX6_flaw_52 : decode cX6_flaw 52 = .ok (.aload_n 3, 1) := by decide +kernel
theorem dX6_flaw_53 : decode cX6_flaw 53 = .ok (.getfield 181, 3) := by decide +kernel
theorem dX6_flaw_56 : decode cX6_flaw 56 = .ok (.istore 4, 2) := by decide +kernel
theorem dX6_flaw_58 : decode cX6_flaw 58 = .ok (.aload_n 3, 1) := by decide +kernel
theorem dX6_flaw_59 : decode cX6_flaw 59 = .ok (.iload_n 2, 1) := by decide +kernel
theorem dX6_flaw_60 : decode cX6_flaw 60 = .ok (.putfield 181, 3) := by decide +kernel
theorem dX6_flaw_63 : decode cX6_flaw 63 = .ok (.aload_n 3, 1) := by decide +kernel
theorem dX6_flaw_64 : decode cX6_flaw 64 = .ok (.aload_n 3, 1) := by decide +kernel
theorem dX6_flaw_65 : decode cX6_flaw 65 = .ok (.getfield 242, 3) := by decide +kernel
theorem dX6_flaw_68 : decode cX6_flaw 68 = .ok (.putfield 243, 3) := by decide +kernel
theorem dX6_flaw_71 : decode cX6_flaw 71 = .ok (.iload 4, 2) := by decide +kernel
theorem dX6_flaw_73 : decode cX6_flaw 73 = .ok (.ireturn, 1) := by decide +kernel
theorem dX6_look_0 : decode cX6_look 0 = .ok (.aload_n 0, 1) := by decide +kernel
theorem dX6_look_1 : decode cX6_look 1 = .ok (.iload_n 1, 1) := by decide +kernel
theorem dX6_look_2 : decode cX6_look 2 = .ok (.invokevirtual 83, 3) := by decide +kernel
theorem dX6_look_5 : decode cX6_look 5 = .ok (.astore_n 3, 1) := by decide +kernel
theorem dX6_look_6 : decode cX6_look 6 = .ok (.aload_n 3, 1) := by decide +kernel
theorem dX6_look_7 : decode cX6_look 7 = .ok (.getfield 106, 3) := by decide +kernel
theorem dX6_look_10 : decode cX6_look 10 = .ok (.ifCond .ne 21, 3) := by decide +kernel
theorem dX6_look_13 : decode cX6_look 13 = .ok (.aload_n 3, 1) := by decide +kernel
theorem dX6_look_14 : decode cX6_look 14 = .ok (.invokevirtual 109, 3) := by decide +kernel
theorem dX6_look_17 : decode cX6_look 17 = .ok (.ifCond .ne 14, 3) := by decide +kernel
theorem dX6_look_20 : decode cX6_look 20 = .ok (.iload_n 2, 1) := by decide +kernel
theorem dX6_look_21 : decode cX6_look 21 = .ok (.ifCond .eq 20, 3) := by decide +kernel
theorem dX6_look_24 : decode cX6_look 24 = .ok (.aload_n 3, 1) := by decide +kernel
theorem dX6_look_25 : decode cX6_look 25 = .ok (.invokevirtual 96, 3) := by decide +kernel
theorem dX6_look_28 : decode cX6_look 28 = .ok (.ifCond .ne 13, 3) := by decide +kernel
theorem dX6_look_31 : decode cX6_look 31 = .ok (.new 56, 3) := by decide +kernel
theorem dX6_look_34 : decode cX6_look 34 = .ok (.dup, 1) := by decide +kernel
theorem dX6_look_35 : decode cX6_look 35 = .ok (.ldc 246, 2) := by decide +kernel
theorem dX6_look_37 : decode cX6_look 37 = .ok (.invokespecial 60, 3) := by decide +kernel
theorem dX6_look_40 : decode cX6_look 40 = .ok (.athrow, 1) := by decide +kernel
theorem dX6_look_41 : decode cX6_look 41 = .ok (.aload_n 3, 1) := by decide +kernel
theorem dX6_look_42 : decode cX6_look 42 = .ok (.getfield 181, 3) := by decide +kernel
theorem dX6_look_45 : decode cX6_look 45 = .ok (.iload_n 2, 1) := by decide +kernel
theorem dX6_look_46 : decode cX6_look 46 = .ok (.ifCond .eq 7, 3) := by decide +kernel
theorem dX6_look_49 : decode cX6_look 49 = .ok (.iconst 3, 1) := by decide +kernel
theorem dX6_look_50 : decode cX6_look 50 = .ok (.goto 5, 3) := by decide +kernel
theorem dX6_look_53 : decode cX6_look 53 = .ok (.bipush 10, 2) := by decide +kernel
theorem dX6_look_55 : decode cX6_look 55 = .ok (.if_icmp .lt 21, 3) := by decide +kernel
theorem dX6_look_58 : decode cX6_look 58 = .ok (.aload_n 3, 1) := by decide +kernel
theorem dX6_look_59 : decode cX6_look 59 = .ok (.iconst 1, 1) := by decide +kernel
theorem dX6_look_60 : decode cX6_look 60 = .ok (.putfield 100, 3) := by decide +kernel
theorem dX6_look_63 : decode cX6_look 63 = .ok (.aload_n 3, 1) := by decide +kernel
theorem dX6_look_64 : decode cX6_look 64 = .ok (.invokevirtual 137, 3) := by decide +kernel
theorem dX6_look_67 : decode cX6_look 67 = .ok (.iconst 0, 1) := by decide +kernel
theorem dX6_look_68 : decode cX6_look 68 = .ok (.putfield 141, 3) := by decide +kernel
theorem dX6_look_71 : decode cX6_look 71 = .ok (.aload_n 3, 1) := by decide +kernel
theorem dX6_look_72 : decode cX6_look 72 = .ok (.getfield 181, 3) := by decide +kernel
theorem dX6_look_75 : decode cX6_look 75 = .ok (.ireturn, 1) := by decide +kernel
theorem dX6_look_76 : decode cX6_look 76 = .ok (.iload_n 2, 1) := by decide +kernel
theorem dX6_look_77 : decode cX6_look 77 = .ok (.ifCond .eq 8, 3) := by decide +kernel
theorem dX6_look_80 : decode cX6_look 80 = .ok (.aload_n 3, 1) := by decide +kernel
theorem dX6_look_81 : decode cX6_look 81 = .ok (.iconst 0, 1) := by decide +kernel
theorem dX6_look_82 : decode cX6_look 82 = .ok (.putfield 248, 3) := by decide +kernel
theorem dX6_look_85 : decode cX6_look 85 = .ok (.iconst 0, 1) := by decide +kernel
theorem dX6_look_86 : decode cX6_look 86 = .ok (.ireturn, 1) := by decide +kernel
theorem dX6_clear_0 : decode cX6_clear 0 = .ok (.aload_n 0, 1) := by decide +kernel
theorem dX6_clear_1 : decode cX6_clear 1 = .ok (.iload_n 1, 1) := by decide +kernel
theorem dX6_clear_2 : decode cX6_clear 2 = .ok (.invokevirtual 83, 3) := by decide +kernel
theorem dX6_clear_5 : decode cX6_clear 5 = .ok (.astore_n 2, 1) := by decide +kernel
theorem dX6_clear_6 : decode cX6_clear 6 = .ok (.aload_n 2, 1) := by decide +kernel
theorem dX6_clear_7 : decode cX6_clear 7 = .ok (.getfield 100, 3) := by decide +kernel
theorem dX6_clear_10 : decode cX6_clear 10 = .ok (.ifCond .eq 10, 3) := by decide +kernel
theorem dX6_clear_13 : decode cX6_clear 13 = .ok (.aload_n 2, 1) := by decide +kernel
theorem dX6_clear_14 : decode cX6_clear 14 = .ok (.invokevirtual 109, 3) := by decide +kernel
theorem dX6_clear_17 : decode cX6_clear 17 = .ok (.ifCond .eq 13, 3) := by decide +kernel
theorem dX6_clear_20 : decode cX6_clear 20 = .ok (.new 56, 3) := by decide +kernel
theorem dX6_clear_23 : decode cX6_clear 23 = .ok (.dup, 1) := by decide +kernel
theorem dX6_clear_24 : decode cX6_clear 24 = .ok (.ldc 251, 2) := by decide +kernel
theorem dX6_clear_26 : decode cX6_clear 26 = .ok (.invokespecial 60, 3) := by decide +kernel
theorem dX6_clear_29 : decode cX6_clear 29 = .ok (.athrow, 1) := by decide +kernel
theorem dX6_clear_30 : decode cX6_clear 30 = .ok (.aload_n 2, 1) := by decide +kernel
theorem dX6_clear_31 : decode cX6_clear 31 = .ok (.getfield 181, 3) := by decide +kernel
theorem dX6_clear_34 : decode cX6_clear 34 = .ok (.istore_n 3, 1) := by decide +kernel
theorem dX6_clear_35 : decode cX6_clear 35 = .ok (.aload_n 2, 1) := by decide +kernel
theorem dX6_clear_36 : decode cX6_clear 36 = .ok (.iconst 0, 1) := by decide +kernel
theorem dX6_clear_37 : decode cX6_clear 37 = .ok (.putfield 181, 3) := by decide +kernel
theorem dX6_clear_40 : decode cX6_clear 40 = .ok (.aload_n 2, 1) := by decide +kernel
theorem dX6_clear_41 : decode cX6_clear 41 = .ok (.iconst 0, 1) := by decide +kernel
theorem dX6_clear_42 : decode cX6_clear 42 = .ok (.putfield 100, 3) := by decide +kernel
theorem dX6_clear_45 : decode cX6_clear 45 = .ok (.iload_n 3, 1) := by decide +kernel
theorem dX6_clear_46 : decode cX6_clear 46 = .ok (.ireturn, 1) := by decide +kernel
theorem dX6_recall_0 : decode cX6_recall 0 = .ok (.iload_n 1, 1) := by decide +kernel
theorem dX6_recall_1 : decode cX6_recall 1 = .ok (.iconst 0, 1) := by decide +kernel
theorem dX6_recall_2 : decode cX6_recall 2 = .ok (.bipush 9, 2) := by decide +kernel
theorem dX6_recall_4 : decode cX6_recall 4 = .ok (.invokestatic 41, 3) := by decide +kernel
theorem dX6_recall_7 : decode cX6_recall 7 = .ok (.ifCond .eq 13, 3) := by decide +kernel
theorem dX6_recall_10 : decode cX6_recall 10 = .ok (.new 45, 3) := by decide +kernel
theorem dX6_recall_13 : decode cX6_recall 13 = .ok (.dup, 1) := by decide +kernel
theorem dX6_recall_14 : decode cX6_recall 14 = .ok (.ldc 253, 2) := by decide +kernel
theorem dX6_recall_16 : decode cX6_recall 16 = .ok (.invokespecial 49, 3) := by decide +kernel
theorem dX6_recall_19 : decode cX6_recall 19 = .ok (.athrow, 1) := by decide +kernel
theorem dX6_recall_20 : decode cX6_recall 20 = .ok (.iconst 0, 1) := by decide +kernel
theorem dX6_recall_21 : decode cX6_recall 21 = .ok (.istore_n 2, 1) := by decide +kernel
theorem dX6_recall_22 : decode cX6_recall 22 = .ok (.iconst 0, 1) := by decide +kernel
theorem dX6_recall_23 : decode cX6_recall 23 = .ok (.istore_n 3, 1) := by decide +kernel
theorem dX6_recall_24 : decode cX6_recall 24 = .ok (.iload_n 3, 1) := by decide +kernel
theorem dX6_recall_25 : decode cX6_recall 25 = .ok (.aload_n 0, 1) := by decide +kernel
theorem dX6_recall_26 : decode cX6_recall 26 = .ok (.getfield 10, 3) := by decide +kernel
theorem dX6_recall_29 : decode cX6_recall 29 = .ok (.invokevirtual 52, 3) := by decide +kernel
theorem dX6_recall_32 : decode cX6_recall 32 = .ok (.if_icmp .ge 65, 3) := by decide +kernel
theorem dX6_recall_35 : decode cX6_recall 35 = .ok (.aload_n 0, 1) := by decide +kernel
theorem dX6_recall_36 : decode cX6_recall 36 = .ok (.getfield 10, 3) := by decide +kernel
theorem dX6_recall_39 : decode cX6_recall 39 = .ok (.iload_n 3, 1) := by decide +kernel
theorem dX6_recall_40 : decode cX6_recall 40 = .ok (.invokevirtual 171, 3) := by decide +kernel
theorem dX6_recall_43 : decode cX6_recall 43 = .ok (.checkcast 61, 3) := by decide +kernel
theorem dX6_recall_46 : decode cX6_recall 46 = .ok (.astore 4, 2) := by decide +kernel
theorem dX6_recall_48 : decode cX6_recall 48 = .ok (.aload 4, 2) := by decide +kernel
theorem dX6_recall_50 : decode cX6_recall 50 = .ok (.getfield 255, 3) := by decide +kernel
theorem dX6_recall_53 : decode cX6_recall 53 = .ok (.iload_n 1, 1) := by decide +kernel
theorem dX6_recall_54 : decode cX6_recall 54 = .ok (.if_icmp .ne 37, 3) := by decide +kernel
theorem dX6_recall_57 : decode cX6_recall 57 = .ok (.aload 4, 2) := by decide +kernel
theorem dX6_recall_59 : decode cX6_recall 59 = .ok (.getfield 106, 3) := by decide +kernel
theorem dX6_recall_62 : decode cX6_recall 62 = .ok (.ifCond .ne 29, 3) := by decide +kernel
theorem dX6_recall_65 : decode cX6_recall 65 = .ok (.aload 4, 2) := by decide +kernel
theorem dX6_recall_67 : decode cX6_recall 67 = .ok (.getfield 248, 3) := by decide +kernel
theorem dX6_recall_70 : decode cX6_recall 70 = .ok (.ifCond .ne 21, 3) := by decide +kernel
theorem dX6_recall_73 : decode cX6_recall 73 = .ok (.aload 4, 2) := by decide +kernel
theorem dX6_recall_75 : decode cX6_recall 75 = .ok (.iconst 1, 1) := by decide +kernel
theorem dX6_recall_76 : decode cX6_recall 76 = .ok (.putfield 248, 3) := by decide +kernel
theorem dX6_recall_79 : decode cX6_recall 79 = .ok (.aload 4, 2) := by decide +kernel
theorem dX6_recall_81 : decode cX6_recall 81 = .ok (.invokevirtual 137, 3) := by decide +kernel
theorem dX6_recall_84 : decode cX6_recall 84 = .ok (.iconst 0, 1) := by decide +kernel
theorem dX6_recall_85 : decode cX6_recall 85 = .ok (.putfield 141, 3) := by decide +kernel
theorem dX6_recall_88 : decode cX6_recall 88 = .ok (.iinc 2 1, 3) := by decide +kernel
theorem dX6_recall_91 : decode cX6_recall 91 = .ok (.iinc 3 1, 3) := by decide +kernel
theorem dX6_recall_94 : decode cX6_recall 94 = .ok (.goto (-70), 3) := by decide +kernel
theorem dX6_recall_97 : decode cX6_recall 97 = .ok (.iload_n 2, 1) := by decide +kernel
theorem dX6_recall_98 : decode cX6_recall 98 = .ok (.ireturn, 1) := by decide +kernel
theorem dX6_release_0 : decode cX6_release 0 = .ok (.aload_n 0, 1) := by decide +kernel
theorem dX6_release_1 : decode cX6_release 1 = .ok (.iload_n 1, 1) := by decide +kernel
theorem dX6_release_2 : decode cX6_release 2 = .ok (.invokevirtual 160, 3) := by decide +kernel
theorem dX6_release_5 : decode cX6_release 5 = .ok (.astore_n 2, 1) := by decide +kernel
theorem dX6_release_6 : decode cX6_release 6 = .ok (.aload_n 0, 1) := by decide +kernel
theorem dX6_release_7 : decode cX6_release 7 = .ok (.aload_n 2, 1) := by decide +kernel
theorem dX6_release_8 : decode cX6_release 8 = .ok (.invokevirtual 258, 3) := by decide +kernel
theorem dX6_release_11 : decode cX6_release 11 = .ok (.istore_n 3, 1) := by decide +kernel
theorem dX6_release_12 : decode cX6_release 12 = .ok (.aload_n 2, 1) := by decide +kernel
theorem dX6_release_13 : decode cX6_release 13 = .ok (.iload_n 3, 1) := by decide +kernel
theorem dX6_release_14 : decode cX6_release 14 = .ok (.ifCond .ne 7, 3) := by decide +kernel
theorem dX6_release_17 : decode cX6_release 17 = .ok (.iconst 1, 1) := by decide +kernel
theorem dX6_release_18 : decode cX6_release 18 = .ok (.goto 4, 3) := by decide +kernel
theorem dX6_release_21 : decode cX6_release 21 = .ok (.iconst 0, 1) := by decide +kernel
theorem dX6_release_22 : decode cX6_release 22 = .ok (.putfield 141, 3) := by decide +kernel
theorem dX6_release_25 : decode cX6_release 25 = .ok (.iload_n 3, 1) := by decide +kernel
theorem dX6_release_26 : decode cX6_release 26 = .ok (.ireturn, 1) := by decide +kernel
theorem dX6_comes_0 : decode cX6_comes 0 = .ok (.aload_n 0, 1) := by decide +kernel
theorem dX6_comes_1 : decode cX6_comes 1 = .ok (.iload_n 1, 1) := by decide +kernel
theorem dX6_comes_2 : decode cX6_comes 2 = .ok (.invokevirtual 160, 3) := by decide +kernel
theorem dX6_comes_5 : decode cX6_comes 5 = .ok (.astore_n 3, 1) := by decide +kernel
theorem dX6_comes_6 : decode cX6_comes 6 = .ok (.iload_n 2, 1) := by decide +kernel
theorem dX6_comes_7 : decode cX6_comes 7 = .ok (.iconst 0, 1) := by decide +kernel
theorem dX6_comes_8 : decode cX6_comes 8 = .ok (.bipush 99, 2) := by decide +kernel
theorem dX6_comes_10 : decode cX6_comes 10 = .ok (.invokestatic 41, 3) := by decide +kernel
theorem dX6_comes_13 : decode cX6_comes 13 = .ok (.ifCond .eq 14, 3) := by decide +kernel
theorem dX6_comes_16 : decode cX6_comes 16 = .ok (.new 45, 3) := by decide +kernel
theorem dX6_comes_19 : decode cX6_comes 19 = .ok (.dup, 1) := by decide +kernel
theorem dX6_comes_20 : decode cX6_comes 20 = .ok (.ldc_w 261, 3) := by decide +kernel
theorem dX6_comes_23 : decode cX6_comes 23 = .ok (.invokespecial 49, 3) := by decide +kernel
theorem dX6_comes_26 : decode cX6_comes 26 = .ok (.athrow, 1) := by decide +kernel
theorem dX6_comes_27 : decode cX6_comes 27 = .ok (.aload_n 0, 1) := by decide +kernel
theorem dX6_comes_28 : decode cX6_comes 28 = .ok (.getfield 32, 3) := by decide +kernel
theorem dX6_comes_31 : decode cX6_comes 31 = .ok (.getfield 263, 3) := by decide +kernel
theorem dX6_comes_34 : decode cX6_comes 34 = .ok (.invokevirtual 52, 3) := by decide +kernel
theorem dX6_comes_37 : decode cX6_comes 37 = .ok (.bipush 8, 2) := by decide +kernel
theorem dX6_comes_39 : decode cX6_comes 39 = .ok (.if_icmp .ge 25, 3) := by decide +kernel
theorem dX6_comes_42 : decode cX6_comes 42 = .ok (.aload_n 0, 1) := by decide +kernel
theorem dX6_comes_43 : decode cX6_comes 43 = .ok (.getfield 32, 3) := by decide +kernel
theorem dX6_comes_46 : decode cX6_comes 46 = .ok (.iload_n 2, 1) := by decide +kernel
theorem dX6_comes_47 : decode cX6_comes 47 = .ok (.invokevirtual 266, 3) := by decide +kernel
theorem dX6_comes_50 : decode cX6_comes 50 = .ok (.ifCond .ne 14, 3) := by decide +kernel
theorem dX6_comes_53 : decode cX6_comes 53 = .ok (.aload_n 0, 1) := by decide +kernel
theorem dX6_comes_54 : decode cX6_comes 54 = .ok (.getfield 32, 3) := by decide +kernel
theorem dX6_comes_57 : decode cX6_comes 57 = .ok (.aload_n 3, 1) := by decide +kernel
theorem dX6_comes_58 : decode cX6_comes 58 = .ok (.invokevirtual 154, 3) := by decide +kernel
theorem dX6_comes_61 : decode cX6_comes 61 = .ok (.ifCond .eq 14, 3) := by decide +kernel
theorem dX6_comes_64 : decode cX6_comes 64 = .ok (.new 56, 3) := by decide +kernel
theorem dX6_comes_67 : decode cX6_comes 67 = .ok (.dup, 1) := by decide +kernel
theorem dX6_comes_68 : decode cX6_comes 68 = .ok (.ldc_w 270, 3) := by decide +kernel
theorem dX6_comes_71 : decode cX6_comes 71 = .ok (.invokespecial 60, 3) := by decide +kernel
theorem dX6_comes_74 : decode cX6_comes 74 = .ok (.athrow, 1) := by decide +kernel
theorem dX6_comes_75 : decode cX6_comes 75 = .ok (.aload_n 3, 1) := by decide +kernel
theorem dX6_comes_76 : decode cX6_comes 76 = .ok (.invokevirtual 109, 3) := by decide +kernel
theorem dX6_comes_79 : decode cX6_comes 79 = .ok (.ifCond .ne 10, 3) := by decide +kernel
theorem dX6_comes_82 : decode cX6_comes 82 = .ok (.aload_n 3, 1) := by decide +kernel
theorem dX6_comes_83 : decode cX6_comes 83 = .ok (.getfield 106, 3) := by decide +kernel
theorem dX6_comes_86 : decode cX6_comes 86 = .ok (.ifCond .eq 14, 3) := by decide +kernel
theorem dX6_comes_89 : decode cX6_comes 89 = .ok (.new 56, 3) := by decide +kernel
theorem dX6_comes_92 : decode cX6_comes 92 = .ok (.dup, 1) := by decide +kernel
theorem dX6_comes_93 : decode cX6_comes 93 = .ok (.ldc_w 272, 3) := by decide +kernel
theorem dX6_comes_96 : decode cX6_comes 96 = .ok (.invokespecial 60, 3) := by decide +kernel
theorem dX6_comes_99 : decode cX6_comes 99 = .ok (.athrow, 1) := by decide +kernel
theorem dX6_comes_100 : decode cX6_comes 100 = .ok (.aload_n 3, 1) := by decide +kernel
theorem dX6_comes_101 : decode cX6_comes 101 = .ok (.iload_n 2, 1) := by decide +kernel
theorem dX6_comes_102 : decode cX6_comes 102 = .ok (.putfield 274, 3) := by decide +kernel
theorem dX6_comes_105 : decode cX6_comes 105 = .ok (.aload_n 0, 1) := by decide +kernel
theorem dX6_comes_106 : decode cX6_comes 106 = .ok (.getfield 32, 3) := by decide +kernel
theorem dX6_comes_109 : decode cX6_comes 109 = .ok (.getfield 263, 3) := by decide +kernel
theorem dX6_comes_112 : decode cX6_comes 112 = .ok (.aload_n 3, 1) := by decide +kernel
theorem dX6_comes_113 : decode cX6_comes 113 = .ok (.invokevirtual 66, 3) := by decide +kernel
theorem dX6_comes_116 : decode cX6_comes 116 = .ok (.pop, 1) := by decide +kernel
theorem dX6_comes_117 : decode cX6_comes 117 = .ok (.aload_n 0, 1) := by decide +kernel
theorem dX6_comes_118 : decode cX6_comes 118 = .ok (.getfield 32, 3) := by decide +kernel
theorem dX6_comes_121 : decode cX6_comes 121 = .ok (.getfield 263, 3) := by decide +kernel
theorem dX6_comes_124 : decode cX6_comes 124 = .ok (.invokevirtual 52, 3) := by decide +kernel
theorem dX6_comes_127 : decode cX6_comes 127 = .ok (.ireturn, 1) := by decide +kernel
theorem dX6_night_0 : decode cX6_night 0 = .ok (.aload_n 0, 1) := by decide +kernel
theorem dX6_night_1 : decode cX6_night 1 = .ok (.getfield 32, 3) := by decide +kernel
theorem dX6_night_4 : decode cX6_night 4 = .ok (.getfield 263, 3) := by decide +kernel
theorem dX6_night_7 : decode cX6_night 7 = .ok (.invokevirtual 277, 3) := by decide +kernel
theorem dX6_night_10 : decode cX6_night 10 = .ok (.ifCond .ne 16, 3) := by decide +kernel
theorem dX6_night_13 : decode cX6_night 13 = .ok (.aload_n 0, 1) := by decide +kernel
theorem dX6_night_14 : decode cX6_night 14 = .ok (.getfield 32, 3) := by decide +kernel
theorem dX6_night_17 : decode cX6_night 17 = .ok (.getfield 280, 3) := by decide +kernel
theorem dX6_night_20 : decode cX6_night 20 = .ok (.invokevirtual 277, 3) := by decide +kernel
theorem dX6_night_23 : decode cX6_night 23 = .ok (.ifCond .ne 14, 3) := by decide +kernel
theorem dX6_night_26 : decode cX6_night 26 = .ok (.new 56, 3) := by decide +kernel
theorem dX6_night_29 : decode cX6_night 29 = .ok (.dup, 1) := by decide +kernel
theorem dX6_night_30 : decode cX6_night 30 = .ok (.ldc_w 283, 3) := by decide +kernel
theorem dX6_night_33 : decode cX6_night 33 = .ok (.invokespecial 60, 3) := by decide +kernel
theorem dX6_night_36 : decode cX6_night 36 = .ok (.athrow, 1) := by decide +kernel
theorem dX6_night_37 : decode cX6_night 37 = .ok (.aload_n 0, 1) := by decide +kernel
theorem dX6_night_38 : decode cX6_night 38 = .ok (.getfield 32, 3) := by decide +kernel
theorem dX6_night_41 : decode cX6_night 41 = .ok (.invokevirtual 285, 3) := by decide +kernel
theorem dX6_night_44 : decode cX6_night 44 = .ok (.ireturn, 1) := by decide +kernel
theorem dX6_out_0 : decode cX6_out 0 = .ok (.aload_n 0, 1) := by decide +kernel
theorem dX6_out_1 : decode cX6_out 1 = .ok (.getfield 32, 3) := by decide +kernel
theorem dX6_out_4 : decode cX6_out 4 = .ok (.getfield 280, 3) := by decide +kernel
theorem dX6_out_7 : decode cX6_out 7 = .ok (.invokevirtual 277, 3) := by decide +kernel
theorem dX6_out_10 : decode cX6_out 10 = .ok (.ifCond .eq 14, 3) := by decide +kernel
theorem dX6_out_13 : decode cX6_out 13 = .ok (.new 56, 3) := by decide +kernel
theorem dX6_out_16 : decode cX6_out 16 = .ok (.dup, 1) := by decide +kernel
theorem dX6_out_17 : decode cX6_out 17 = .ok (.ldc_w 288, 3) := by decide +kernel
theorem dX6_out_20 : decode cX6_out 20 = .ok (.invokespecial 60, 3) := by decide +kernel
theorem dX6_out_23 : decode cX6_out 23 = .ok (.athrow, 1) := by decide +kernel
theorem dX6_out_24 : decode cX6_out 24 = .ok (.aload_n 0, 1) := by decide +kernel
theorem dX6_out_25 : decode cX6_out 25 = .ok (.getfield 32, 3) := by decide +kernel
theorem dX6_out_28 : decode cX6_out 28 = .ok (.invokevirtual 290, 3) := by decide +kernel
theorem dX6_out_31 : decode cX6_out 31 = .ok (.ireturn, 1) := by decide +kernel
theorem dX6_host_0 : decode cX6_host 0 = .ok (.aload_n 0, 1) := by decide +kernel
theorem dX6_host_1 : decode cX6_host 1 = .ok (.iload_n 1, 1) := by decide +kernel
theorem dX6_host_2 : decode cX6_host 2 = .ok (.invokevirtual 83, 3) := by decide +kernel
theorem dX6_host_5 : decode cX6_host 5 = .ok (.invokevirtual 293, 3) := by decide +kernel
theorem dX6_host_8 : decode cX6_host 8 = .ok (.ireturn, 1) := by decide +kernel
theorem dX6_head_0 : decode cX6_head 0 = .ok (.aload_n 0, 1) := by decide +kernel
theorem dX6_head_1 : decode cX6_head 1 = .ok (.iload_n 1, 1) := by decide +kernel
theorem dX6_head_2 : decode cX6_head 2 = .ok (.invokevirtual 83, 3) := by decide +kernel
theorem dX6_head_5 : decode cX6_head 5 = .ok (.invokevirtual 137, 3) := by decide +kernel
theorem dX6_head_8 : decode cX6_head 8 = .ok (.getfield 149, 3) := by decide +kernel
theorem dX6_head_11 : decode cX6_head 11 = .ok (.ireturn, 1) := by decide +kernel
theorem dX6_ofPart_0 : decode cX6_ofPart 0 = .ok (.aload_n 0, 1) := by decide +kernel
theorem dX6_ofPart_1 : decode cX6_ofPart 1 = .ok (.iload_n 1, 1) := by decide +kernel
theorem dX6_ofPart_2 : decode cX6_ofPart 2 = .ok (.invokevirtual 83, 3) := by decide +kernel
theorem dX6_ofPart_5 : decode cX6_ofPart 5 = .ok (.astore_n 3, 1) := by decide +kernel
theorem dX6_ofPart_6 : decode cX6_ofPart 6 = .ok (.iload_n 2, 1) := by decide +kernel
theorem dX6_ofPart_7 : decode cX6_ofPart 7 = .ok (.tableswitch 114 0 8 #[49, 54, 59, 64, 69, 74, 79, 92, 105], 49) := by decide +kernel
theorem dX6_ofPart_56 : decode cX6_ofPart 56 = .ok (.aload_n 3, 1) := by decide +kernel
theorem dX6_ofPart_57 : decode cX6_ofPart 57 = .ok (.getfield 87, 3) := by decide +kernel
theorem dX6_ofPart_60 : decode cX6_ofPart 60 = .ok (.ireturn, 1) := by decide +kernel
theorem dX6_ofPart_61 : decode cX6_ofPart 61 = .ok (.aload_n 3, 1) := by decide +kernel
theorem dX6_ofPart_62 : decode cX6_ofPart 62 = .ok (.getfield 255, 3) := by decide +kernel
theorem dX6_ofPart_65 : decode cX6_ofPart 65 = .ok (.ireturn, 1) := by decide +kernel
theorem dX6_ofPart_66 : decode cX6_ofPart 66 = .ok (.aload_n 3, 1) := by decide +kernel
theorem dX6_ofPart_67 : decode cX6_ofPart 67 = .ok (.getfield 118, 3) := by decide +kernel
theorem dX6_ofPart_70 : decode cX6_ofPart 70 = .ok (.ireturn, 1) := by decide +kernel
theorem dX6_ofPart_71 : decode cX6_ofPart 71 = .ok (.aload_n 3, 1) := by decide +kernel
theorem dX6_ofPart_72 : decode cX6_ofPart 72 = .ok (.getfield 242, 3) := by decide +kernel
theorem dX6_ofPart_75 : decode cX6_ofPart 75 = .ok (.ireturn, 1) := by decide +kernel
theorem dX6_ofPart_76 : decode cX6_ofPart 76 = .ok (.aload_n 3, 1) := by decide +kernel
theorem dX6_ofPart_77 : decode cX6_ofPart 77 = .ok (.getfield 224, 3) := by decide +kernel
theorem dX6_ofPart_80 : decode cX6_ofPart 80 = .ok (.ireturn, 1) := by decide +kernel
theorem dX6_ofPart_81 : decode cX6_ofPart 81 = .ok (.aload_n 3, 1) := by decide +kernel
theorem dX6_ofPart_82 : decode cX6_ofPart 82 = .ok (.getfield 227, 3) := by decide +kernel
theorem dX6_ofPart_85 : decode cX6_ofPart 85 = .ok (.ireturn, 1) := by decide +kernel
theorem dX6_ofPart_86 : decode cX6_ofPart 86 = .ok (.aload_n 3, 1) := by decide +kernel
theorem dX6_ofPart_87 : decode cX6_ofPart 87 = .ok (.getfield 100, 3) := by decide +kernel
theorem dX6_ofPart_90 : decode cX6_ofPart 90 = .ok (.ifCond .eq 7, 3) := by decide +kernel
theorem dX6_ofPart_93 : decode cX6_ofPart 93 = .ok (.iconst 1, 1) := by decide +kernel
theorem dX6_ofPart_94 : decode cX6_ofPart 94 = .ok (.goto 4, 3) := by decide +kernel
theorem dX6_ofPart_97 : decode cX6_ofPart 97 = .ok (.iconst 0, 1) := by decide +kernel
theorem dX6_ofPart_98 : decode cX6_ofPart 98 = .ok (.ireturn, 1) := by decide +kernel
theorem dX6_ofPart_99 : decode cX6_ofPart 99 = .ok (.aload_n 3, 1) := by decide +kernel
theorem dX6_ofPart_100 : decode cX6_ofPart 100 = .ok (.getfield 248, 3) := by decide +kernel
theorem dX6_ofPart_103 : decode cX6_ofPart 103 = .ok (.ifCond .eq 7, 3) := by decide +kernel
theorem dX6_ofPart_106 : decode cX6_ofPart 106 = .ok (.iconst 1, 1) := by decide +kernel
theorem dX6_ofPart_107 : decode cX6_ofPart 107 = .ok (.goto 4, 3) := by decide +kernel
theorem dX6_ofPart_110 : decode cX6_ofPart 110 = .ok (.iconst 0, 1) := by decide +kernel
theorem dX6_ofPart_111 : decode cX6_ofPart 111 = .ok (.ireturn, 1) := by decide +kernel
theorem dX6_ofPart_112 : decode cX6_ofPart 112 = .ok (.aload_n 0, 1) := by decide +kernel
theorem dX6_ofPart_113 : decode cX6_ofPart 113 = .ok (.getfield 25, 3) := by decide +kernel
theorem dX6_ofPart_116 : decode cX6_ofPart 116 = .ok (.iload_n 1, 1) := by decide +kernel
theorem dX6_ofPart_117 : decode cX6_ofPart 117 = .ok (.invokevirtual 296, 3) := by decide +kernel
theorem dX6_ofPart_120 : decode cX6_ofPart 120 = .ok (.ireturn, 1) := by decide +kernel
theorem dX6_ofPart_121 : decode cX6_ofPart 121 = .ok (.new 45, 3) := by decide +kernel
theorem dX6_ofPart_124 : decode cX6_ofPart 124 = .ok (.dup, 1) := by decide +kernel
theorem dX6_ofPart_125 : decode cX6_ofPart 125 = .ok (.ldc_w 299, 3) := by decide +kernel
theorem dX6_ofPart_128 : decode cX6_ofPart 128 = .ok (.invokespecial 49, 3) := by decide +kernel
theorem dX6_ofPart_131 : decode cX6_ofPart 131 = .ok (.athrow, 1) := by decide +kernel
theorem dX6_trace_0 : decode cX6_trace 0 = .ok (.aload_n 0, 1) := by decide +kernel
theorem dX6_trace_1 : decode cX6_trace 1 = .ok (.iload_n 1, 1) := by decide +kernel
theorem dX6_trace_2 : decode cX6_trace 2 = .ok (.invokevirtual 83, 3) := by decide +kernel
theorem dX6_trace_5 : decode cX6_trace 5 = .ok (.astore_n 3, 1) := by decide +kernel
theorem dX6_trace_6 : decode cX6_trace 6 = .ok (.aload_n 0, 1) := by decide +kernel
theorem dX6_trace_7 : decode cX6_trace 7 = .ok (.getfield 25, 3) := by decide +kernel
theorem dX6_trace_10 : decode cX6_trace 10 = .ok (.aload_n 3, 1) := by decide +kernel
theorem dX6_trace_11 : decode cX6_trace 11 = .ok (.getfield 149, 3) := by decide +kernel
theorem dX6_trace_14 : decode cX6_trace 14 = .ok (.iload_n 2, 1) := by decide +kernel
theorem dX6_trace_15 : decode cX6_trace 15 = .ok (.invokevirtual 301, 3) := by decide +kernel
theorem dX6_trace_18 : decode cX6_trace 18 = .ok (.astore 4, 2) := by decide +kernel
theorem dX6_trace_20 : decode cX6_trace 20 = .ok (.aload 4, 2) := by decide +kernel
theorem dX6_trace_22 : decode cX6_trace 22 = .ok (.ifnonnull 14, 3) := by decide +kernel
theorem dX6_trace_25 : decode cX6_trace 25 = .ok (.new 305, 3) := by decide +kernel
theorem dX6_trace_28 : decode cX6_trace 28 = .ok (.dup, 1) := by decide +kernel
theorem dX6_trace_29 : decode cX6_trace 29 = .ok (.ldc_w 307, 3) := by decide +kernel
theorem dX6_trace_32 : decode cX6_trace 32 = .ok (.invokespecial 309, 3) := by decide +kernel
theorem dX6_trace_35 : decode cX6_trace 35 = .ok (.athrow, 1) := by decide +kernel
theorem dX6_trace_36 : decode cX6_trace 36 = .ok (.aload 4, 2) := by decide +kernel
theorem dX6_trace_38 : decode cX6_trace 38 = .ok (.getfield 310, 3) := by decide +kernel
theorem dX6_trace_41 : decode cX6_trace 41 = .ok (.ireturn, 1) := by decide +kernel
theorem dX6_lifeAnew_0 : decode cX6_lifeAnew 0 = .ok (.aload_n 0, 1) := by decide +kernel
theorem dX6_lifeAnew_1 : decode cX6_lifeAnew 1 = .ok (.getfield 25, 3) := by decide +kernel
theorem dX6_lifeAnew_4 : decode cX6_lifeAnew 4 = .ok (.aload_n 0, 1) := by decide +kernel
theorem dX6_lifeAnew_5 : decode cX6_lifeAnew 5 = .ok (.iload_n 1, 1) := by decide +kernel
theorem dX6_lifeAnew_6 : decode cX6_lifeAnew 6 = .ok (.invokevirtual 83, 3) := by decide +kernel
theorem dX6_lifeAnew_9 : decode cX6_lifeAnew 9 = .ok (.getfield 149, 3) := by decide +kernel
theorem dX6_lifeAnew_12 : decode cX6_lifeAnew 12 = .ok (.invokevirtual 315, 3) := by decide +kernel
theorem dX6_lifeAnew_15 : decode cX6_lifeAnew 15 = .ok (.ireturn, 1) := by decide +kernel
theorem dX6_wheel_0 : decode cX6_wheel 0 = .ok (.aload_n 0, 1) := by decide +kernel
theorem dX6_wheel_1 : decode cX6_wheel 1 = .ok (.iload_n 1, 1) := by decide +kernel
theorem dX6_wheel_2 : decode cX6_wheel 2 = .ok (.invokevirtual 207, 3) := by decide +kernel
theorem dX6_wheel_5 : decode cX6_wheel 5 = .ok (.astore_n 3, 1) := by decide +kernel
theorem dX6_wheel_6 : decode cX6_wheel 6 = .ok (.iload_n 2, 1) := by decide +kernel
theorem dX6_wheel_7 : decode cX6_wheel 7 = .ok (.tableswitch 40 0 2 #[25, 30, 35], 25) := by decide +kernel
theorem dX6_wheel_32 : decode cX6_wheel 32 = .ok (.aload_n 3, 1) := by decide +kernel
theorem dX6_wheel_33 : decode cX6_wheel 33 = .ok (.getfield 196, 3) := by decide +kernel
theorem dX6_wheel_36 : decode cX6_wheel 36 = .ok (.ireturn, 1) := by decide +kernel
theorem dX6_wheel_37 : decode cX6_wheel 37 = .ok (.aload_n 3, 1) := by decide +kernel
theorem dX6_wheel_38 : decode cX6_wheel 38 = .ok (.getfield 213, 3) := by decide +kernel
theorem dX6_wheel_41 : decode cX6_wheel 41 = .ok (.ireturn, 1) := by decide +kernel
theorem dX6_wheel_42 : decode cX6_wheel 42 = .ok (.aload_n 3, 1) := by decide +kernel
theorem dX6_wheel_43 : decode cX6_wheel 43 = .ok (.getfield 216, 3) := by decide +kernel
theorem dX6_wheel_46 : decode cX6_wheel 46 = .ok (.ireturn, 1) := by decide +kernel
theorem dX6_wheel_47 : decode cX6_wheel 47 = .ok (.new 45, 3) := by decide +kernel
theorem dX6_wheel_50 : decode cX6_wheel 50 = .ok (.dup, 1) := by decide +kernel
theorem dX6_wheel_51 : decode cX6_wheel 51 = .ok (.ldc_w 318, 3) := by decide +kernel
theorem dX6_wheel_54 : decode cX6_wheel 54 = .ok (.invokespecial 49, 3) := by decide +kernel
theorem dX6_wheel_57 : decode cX6_wheel 57 = .ok (.athrow, 1) := by decide +kernel
theorem dX6_foretell_0 : decode cX6_foretell 0 = .ok (.aload_n 0, 1) := by decide +kernel
theorem dX6_foretell_1 : decode cX6_foretell 1 = .ok (.iload_n 1, 1) := by decide +kernel
theorem dX6_foretell_2 : decode cX6_foretell 2 = .ok (.invokevirtual 207, 3) := by decide +kernel
theorem dX6_foretell_5 : decode cX6_foretell 5 = .ok (.astore 4, 2) := by decide +kernel
theorem dX6_foretell_7 : decode cX6_foretell 7 = .ok (.iload_n 2, 1) := by decide +kernel
theorem dX6_foretell_8 : decode cX6_foretell 8 = .ok (.iload_n 3, 1) := by decide +kernel
theorem dX6_foretell_9 : decode cX6_foretell 9 = .ok (.invokestatic 163, 3) := by decide +kernel
theorem dX6_foretell_12 : decode cX6_foretell 12 = .ok (.aload 4, 2) := by decide +kernel
theorem dX6_foretell_14 : decode cX6_foretell 14 = .ok (.getfield 216, 3) := by decide +kernel
theorem dX6_foretell_17 : decode cX6_foretell 17 = .ok (.iconst (-1), 1) := by decide +kernel
theorem dX6_foretell_18 : decode cX6_foretell 18 = .ok (.if_icmp .ne 5, 3) := by decide +kernel
theorem dX6_foretell_21 : decode cX6_foretell 21 = .ok (.iconst (-1), 1) := by decide +kernel
theorem dX6_foretell_22 : decode cX6_foretell 22 = .ok (.ireturn, 1) := by decide +kernel
theorem dX6_foretell_23 : decode cX6_foretell 23 = .ok (.iconst 0, 1) := by decide +kernel
theorem dX6_foretell_24 : decode cX6_foretell 24 = .ok (.aload 4, 2) := by decide +kernel
theorem dX6_foretell_26 : decode cX6_foretell 26 = .ok (.getfield 216, 3) := by decide +kernel
theorem dX6_foretell_29 : decode cX6_foretell 29 = .ok (.sipush 250, 3) := by decide +kernel
theorem dX6_foretell_32 : decode cX6_foretell 32 = .ok (.isub, 1) := by decide +kernel
theorem dX6_foretell_33 : decode cX6_foretell 33 = .ok (.invokestatic 320, 3) := by decide +kernel
theorem dX6_foretell_36 : decode cX6_foretell 36 = .ok (.istore 5, 2) := by decide +kernel
theorem dX6_foretell_38 : decode cX6_foretell 38 = .ok (.iload 5, 2) := by decide +kernel
theorem dX6_foretell_40 : decode cX6_foretell 40 = .ok (.sipush 200, 3) := by decide +kernel
theorem dX6_foretell_43 : decode cX6_foretell 43 = .ok (.imul, 1) := by decide +kernel
theorem dX6_foretell_44 : decode cX6_foretell 44 = .ok (.iload_n 2, 1) := by decide +kernel
theorem dX6_foretell_45 : decode cX6_foretell 45 = .ok (.iload_n 3, 1) := by decide +kernel
theorem dX6_foretell_46 : decode cX6_foretell 46 = .ok (.invokestatic 175, 3) := by decide +kernel
theorem dX6_foretell_49 : decode cX6_foretell 49 = .ok (.imul, 1) := by decide +kernel
theorem dX6_foretell_50 : decode cX6_foretell 50 = .ok (.idiv, 1) := by decide +kernel
theorem dX6_foretell_51 : decode cX6_foretell 51 = .ok (.ireturn, 1) := by decide +kernel
theorem dX6_bars_0 : decode cX6_bars 0 = .ok (.aload_n 0, 1) := by decide +kernel
theorem dX6_bars_1 : decode cX6_bars 1 = .ok (.aload_n 0, 1) := by decide +kernel
theorem dX6_bars_2 : decode cX6_bars 2 = .ok (.iload_n 1, 1) := by decide +kernel
theorem dX6_bars_3 : decode cX6_bars 3 = .ok (.invokevirtual 160, 3) := by decide +kernel
theorem dX6_bars_6 : decode cX6_bars 6 = .ok (.invokevirtual 258, 3) := by decide +kernel
theorem dX6_bars_9 : decode cX6_bars 9 = .ok (.ireturn, 1) := by decide +kernel
theorem dX6_barredBy_0 : decode cX6_barredBy 0 = .ok (.aload_n 0, 1) := by decide +kernel
theorem dX6_barredBy_1 : decode cX6_barredBy 1 = .ok (.iload_n 1, 1) := by decide +kernel
theorem dX6_barredBy_2 : decode cX6_barredBy 2 = .ok (.invokevirtual 160, 3) := by decide +kernel
theorem dX6_barredBy_5 : decode cX6_barredBy 5 = .ok (.astore_n 2, 1) := by decide +kernel
theorem dX6_barredBy_6 : decode cX6_barredBy 6 = .ok (.aload_n 0, 1) := by decide +kernel
theorem dX6_barredBy_7 : decode cX6_barredBy 7 = .ok (.aload_n 2, 1) := by decide +kernel
theorem dX6_barredBy_8 : decode cX6_barredBy 8 = .ok (.aload_n 0, 1) := by decide +kernel
theorem dX6_barredBy_9 : decode cX6_barredBy 9 = .ok (.aload_n 2, 1) := by decide +kernel
theorem dX6_barredBy_10 : decode cX6_barredBy 10 = .ok (.invokevirtual 258, 3) := by decide +kernel
theorem dX6_barredBy_13 : decode cX6_barredBy 13 = .ok (.invokevirtual 323, 3) := by decide +kernel
theorem dX6_barredBy_16 : decode cX6_barredBy 16 = .ok (.ireturn, 1) := by decide +kernel
theorem dX6_isReleased_0 : decode cX6_isReleased 0 = .ok (.aload_n 0, 1) := by decide +kernel
theorem dX6_isReleased_1 : decode cX6_isReleased 1 = .ok (.iload_n 1, 1) := by decide +kernel
theorem dX6_isReleased_2 : decode cX6_isReleased 2 = .ok (.invokevirtual 160, 3) := by decide +kernel
theorem dX6_isReleased_5 : decode cX6_isReleased 5 = .ok (.getfield 141, 3) := by decide +kernel
theorem dX6_isReleased_8 : decode cX6_isReleased 8 = .ok (.ireturn, 1) := by decide +kernel
theorem dX6_plan_0 : decode cX6_plan 0 = .ok (.aload_n 0, 1) := by decide +kernel
theorem dX6_plan_1 : decode cX6_plan 1 = .ok (.getfield 32, 3) := by decide +kernel
theorem dX6_plan_4 : decode cX6_plan 4 = .ok (.invokevirtual 326, 3) := by decide +kernel
theorem dX6_plan_7 : decode cX6_plan 7 = .ok (.ireturn, 1) := by decide +kernel
theorem dX6_planAnew_0 : decode cX6_planAnew 0 = .ok (.aload_n 0, 1) := by decide +kernel
theorem dX6_planAnew_1 : decode cX6_planAnew 1 = .ok (.getfield 32, 3) := by decide +kernel
theorem dX6_planAnew_4 : decode cX6_planAnew 4 = .ok (.invokevirtual 329, 3) := by decide +kernel
theorem dX6_planAnew_7 : decode cX6_planAnew 7 = .ok (.ireturn, 1) := by decide +kernel
theorem dX6_road_0 : decode cX6_road 0 = .ok (.iload_n 1, 1) := by decide +kernel
theorem dX6_road_1 : decode cX6_road 1 = .ok (.iconst 0, 1) := by decide +kernel
theorem dX6_road_2 : decode cX6_road 2 = .ok (.iconst 2, 1) := by decide +kernel
theorem dX6_road_3 : decode cX6_road 3 = .ok (.invokestatic 41, 3) := by decide +kernel
theorem dX6_road_6 : decode cX6_road 6 = .ok (.ifCond .ne 7, 3) := by decide +kernel
theorem dX6_road_9 : decode cX6_road 9 = .ok (.iload_n 2, 1) := by decide +kernel
theorem dX6_road_10 : decode cX6_road 10 = .ok (.ifCond .ge 14, 3) := by decide +kernel
theorem dX6_road_13 : decode cX6_road 13 = .ok (.new 305, 3) := by decide +kernel
theorem dX6_road_16 : decode cX6_road 16 = .ok (.dup, 1) := by decide +kernel
theorem dX6_road_17 : decode cX6_road 17 = .ok (.ldc_w 332, 3) := by decide +kernel
theorem dX6_road_20 : decode cX6_road 20 = .ok (.invokespecial 309, 3) := by decide +kernel
theorem dX6_road_23 : decode cX6_road 23 = .ok (.athrow, 1) := by decide +kernel
theorem dX6_road_24 : decode cX6_road 24 = .ok (.aload_n 0, 1) := by decide +kernel
theorem dX6_road_25 : decode cX6_road 25 = .ok (.getfield 32, 3) := by decide +kernel
theorem dX6_road_28 : decode cX6_road 28 = .ok (.iload_n 1, 1) := by decide +kernel
theorem dX6_road_29 : decode cX6_road 29 = .ok (.iload_n 2, 1) := by decide +kernel
theorem dX6_road_30 : decode cX6_road 30 = .ok (.invokevirtual 334, 3) := by decide +kernel
theorem dX6_road_33 : decode cX6_road 33 = .ok (.ireturn, 1) := by decide +kernel
theorem dX6_isOutside_0 : decode cX6_isOutside 0 = .ok (.iload_n 0, 1) := by decide +kernel
theorem dX6_isOutside_1 : decode cX6_isOutside 1 = .ok (.iload_n 1, 1) := by decide +kernel
theorem dX6_isOutside_2 : decode cX6_isOutside 2 = .ok (.if_icmp .lt 8, 3) := by decide +kernel
theorem dX6_isOutside_5 : decode cX6_isOutside 5 = .ok (.iload_n 0, 1) := by decide +kernel
theorem dX6_isOutside_6 : decode cX6_isOutside 6 = .ok (.iload_n 2, 1) := by decide +kernel
theorem dX6_isOutside_7 : decode cX6_isOutside 7 = .ok (.if_icmp .le 7, 3) := by decide +kernel
theorem dX6_isOutside_10 : decode cX6_isOutside 10 = .ok (.iconst 1, 1) := by decide +kernel
theorem dX6_isOutside_11 : decode cX6_isOutside 11 = .ok (.goto 4, 3) := by decide +kernel
theorem dX6_isOutside_14 : decode cX6_isOutside 14 = .ok (.iconst 0, 1) := by decide +kernel
theorem dX6_isOutside_15 : decode cX6_isOutside 15 = .ok (.ireturn, 1) := by decide +kernel
theorem dX6_checkRun_0 : decode cX6_checkRun 0 = .ok (.iload_n 0, 1) := by decide +kernel
theorem dX6_checkRun_1 : decode cX6_checkRun 1 = .ok (.iconst 1, 1) := by decide +kernel
theorem dX6_checkRun_2 : decode cX6_checkRun 2 = .ok (.sipush 2000, 3) := by decide +kernel
theorem dX6_checkRun_5 : decode cX6_checkRun 5 = .ok (.invokestatic 41, 3) := by decide +kernel
theorem dX6_checkRun_8 : decode cX6_checkRun 8 = .ok (.ifCond .ne 12, 3) := by decide +kernel
theorem dX6_checkRun_11 : decode cX6_checkRun 11 = .ok (.iload_n 1, 1) := by decide +kernel
theorem dX6_checkRun_12 : decode cX6_checkRun 12 = .ok (.iconst 0, 1) := by decide +kernel
theorem dX6_checkRun_13 : decode cX6_checkRun 13 = .ok (.iconst 3, 1) := by decide +kernel
theorem dX6_checkRun_14 : decode cX6_checkRun 14 = .ok (.invokestatic 41, 3) := by decide +kernel
theorem dX6_checkRun_17 : decode cX6_checkRun 17 = .ok (.ifCond .eq 14, 3) := by decide +kernel
theorem dX6_checkRun_20 : decode cX6_checkRun 20 = .ok (.new 45, 3) := by decide +kernel
theorem dX6_checkRun_23 : decode cX6_checkRun 23 = .ok (.dup, 1) := by decide +kernel
theorem dX6_checkRun_24 : decode cX6_checkRun 24 = .ok (.ldc_w 337, 3) := by decide +kernel
theorem dX6_checkRun_27 : decode cX6_checkRun 27 = .ok (.invokespecial 49, 3) := by decide +kernel
theorem dX6_checkRun_30 : decode cX6_checkRun 30 = .ok (.athrow, 1) := by decide +kernel
theorem dX6_checkRun_31 : decode cX6_checkRun 31 = .ok (.return_, 1) := by decide +kernel
theorem dX6_limitsOf_0 : decode cX6_limitsOf 0 = .ok (.iload_n 1, 1) := by decide +kernel
theorem dX6_limitsOf_1 : decode cX6_limitsOf 1 = .ok (.ifCond .lt 12, 3) := by decide +kernel
theorem dX6_limitsOf_4 : decode cX6_limitsOf 4 = .ok (.iload_n 1, 1) := by decide +kernel
theorem dX6_limitsOf_5 : decode cX6_limitsOf 5 = .ok (.aload_n 0, 1) := by decide +kernel
theorem dX6_limitsOf_6 : decode cX6_limitsOf 6 = .ok (.getfield 18, 3) := by decide +kernel
theorem dX6_limitsOf_9 : decode cX6_limitsOf 9 = .ok (.arraylength, 1) := by decide +kernel
theorem dX6_limitsOf_10 : decode cX6_limitsOf 10 = .ok (.if_icmp .lt 14, 3) := by decide +kernel
theorem dX6_limitsOf_13 : decode cX6_limitsOf 13 = .ok (.new 45, 3) := by decide +kernel
theorem dX6_limitsOf_16 : decode cX6_limitsOf 16 = .ok (.dup, 1) := by decide +kernel
theorem dX6_limitsOf_17 : decode cX6_limitsOf 17 = .ok (.ldc_w 339, 3) := by decide +kernel
theorem dX6_limitsOf_20 : decode cX6_limitsOf 20 = .ok (.invokespecial 49, 3) := by decide +kernel
theorem dX6_limitsOf_23 : decode cX6_limitsOf 23 = .ok (.athrow, 1) := by decide +kernel
theorem dX6_limitsOf_24 : decode cX6_limitsOf 24 = .ok (.aload_n 0, 1) := by decide +kernel
theorem dX6_limitsOf_25 : decode cX6_limitsOf 25 = .ok (.getfield 18, 3) := by decide +kernel
theorem dX6_limitsOf_28 : decode cX6_limitsOf 28 = .ok (.iload_n 1, 1) := by decide +kernel
theorem dX6_limitsOf_29 : decode cX6_limitsOf 29 = .ok (.aaload, 1) := by decide +kernel
theorem dX6_limitsOf_30 : decode cX6_limitsOf 30 = .ok (.areturn, 1) := by decide +kernel
theorem dX6_existing_0 : decode cX6_existing 0 = .ok (.iload_n 1, 1) := by decide +kernel
theorem dX6_existing_1 : decode cX6_existing 1 = .ok (.ifCond .lt 14, 3) := by decide +kernel
theorem dX6_existing_4 : decode cX6_existing 4 = .ok (.iload_n 1, 1) := by decide +kernel
theorem dX6_existing_5 : decode cX6_existing 5 = .ok (.aload_n 0, 1) := by decide +kernel
theorem dX6_existing_6 : decode cX6_existing 6 = .ok (.getfield 10, 3) := by decide +kernel
theorem dX6_existing_9 : decode cX6_existing 9 = .ok (.invokevirtual 52, 3) := by decide +kernel
theorem dX6_existing_12 : decode cX6_existing 12 = .ok (.if_icmp .lt 14, 3) := by decide +kernel
theorem dX6_existing_15 : decode cX6_existing 15 = .ok (.new 305, 3) := by decide +kernel
theorem dX6_existing_18 : decode cX6_existing 18 = .ok (.dup, 1) := by decide +kernel
theorem dX6_existing_19 : decode cX6_existing 19 = .ok (.ldc_w 341, 3) := by decide +kernel
theorem dX6_existing_22 : decode cX6_existing 22 = .ok (.invokespecial 309, 3) := by decide +kernel
theorem dX6_existing_25 : decode cX6_existing 25 = .ok (.athrow, 1) := by decide +kernel
theorem dX6_existing_26 : decode cX6_existing 26 = .ok (.aload_n 0, 1) := by decide +kernel
theorem dX6_existing_27 : decode cX6_existing 27 = .ok (.getfield 10, 3) := by decide +kernel
theorem dX6_existing_30 : decode cX6_existing 30 = .ok (.iload_n 1, 1) := by decide +kernel
theorem dX6_existing_31 : decode cX6_existing 31 = .ok (.invokevirtual 171, 3) := by decide +kernel
theorem dX6_existing_34 : decode cX6_existing 34 = .ok (.checkcast 61, 3) := by decide +kernel
theorem dX6_existing_37 : decode cX6_existing 37 = .ok (.areturn, 1) := by decide +kernel
theorem dX6_existingTrain_0 : decode cX6_existingTrain 0 = .ok (.aload_n 0, 1) := by decide +kernel
theorem dX6_existingTrain_1 : decode cX6_existingTrain 1 = .ok (.iload_n 1, 1) := by decide +kernel
theorem dX6_existingTrain_2 : decode cX6_existingTrain 2 = .ok (.invokevirtual 83, 3) := by decide +kernel
theorem dX6_existingTrain_5 : decode cX6_existingTrain 5 = .ok (.astore_n 2, 1) := by decide +kernel
theorem dX6_existingTrain_6 : decode cX6_existingTrain 6 = .ok (.aload_n 2, 1) := by decide +kernel
theorem dX6_existingTrain_7 : decode cX6_existingTrain 7 = .ok (.getfield 87, 3) := by decide +kernel
theorem dX6_existingTrain_10 : decode cX6_existingTrain 10 = .ok (.ifCond .eq 14, 3) := by decide +kernel
theorem dX6_existingTrain_13 : decode cX6_existingTrain 13 = .ok (.new 45, 3) := by decide +kernel
theorem dX6_existingTrain_16 : decode cX6_existingTrain 16 = .ok (.dup, 1) := by decide +kernel
theorem dX6_existingTrain_17 : decode cX6_existingTrain 17 = .ok (.ldc_w 343, 3) := by decide +kernel
theorem dX6_existingTrain_20 : decode cX6_existingTrain 20 = .ok (.invokespecial 49, 3) := by decide +kernel
theorem dX6_existingTrain_23 : decode cX6_existingTrain 23 = .ok (.athrow, 1) := by decide +kernel
theorem dX6_existingTrain_24 : decode cX6_existingTrain 24 = .ok (.aload_n 2, 1) := by decide +kernel
theorem dX6_existingTrain_25 : decode cX6_existingTrain 25 = .ok (.areturn, 1) := by decide +kernel
theorem dX6_existingWheel_0 : decode cX6_existingWheel 0 = .ok (.aload_n 0, 1) := by decide +kernel
theorem dX6_existingWheel_1 : decode cX6_existingWheel 1 = .ok (.iload_n 1, 1) := by decide +kernel
theorem dX6_existingWheel_2 : decode cX6_existingWheel 2 = .ok (.invokevirtual 83, 3) := by decide +kernel
theorem dX6_existingWheel_5 : decode cX6_existingWheel 5 = .ok (.getfield 345, 3) := by decide +kernel
theorem dX6_existingWheel_8 : decode cX6_existingWheel 8 = .ok (.astore_n 2, 1) := by decide +kernel
theorem dX6_existingWheel_9 : decode cX6_existingWheel 9 = .ok (.aload_n 2, 1) := by decide +kernel
theorem dX6_existingWheel_10 : decode cX6_existingWheel 10 = .ok (.ifnonnull 14, 3) := by decide +kernel
theorem dX6_existingWheel_13 : decode cX6_existingWheel 13 = .ok (.new 45, 3) := by decide +kernel
theorem dX6_existingWheel_16 : decode cX6_existingWheel 16 = .ok (.dup, 1) := by decide +kernel
theorem dX6_existingWheel_17 : decode cX6_existingWheel 17 = .ok (.ldc_w 349, 3) := by decide +kernel
theorem dX6_existingWheel_20 : decode cX6_existingWheel 20 = .ok (.invokespecial 49, 3) := by decide +kernel
theorem dX6_existingWheel_23 : decode cX6_existingWheel 23 = .ok (.athrow, 1) := by decide +kernel
theorem dX6_existingWheel_24 : decode cX6_existingWheel 24 = .ok (.aload_n 2, 1) := by decide +kernel
theorem dX6_existingWheel_25 : decode cX6_existingWheel 25 = .ok (.areturn, 1) := by decide +kernel
theorem dX6_placesFor_0 : decode cX6_placesFor 0 = .ok (.iload_n 0, 1) := by decide +kernel
theorem dX6_placesFor_1 : decode cX6_placesFor 1 = .ok (.tableswitch 69 0 2 #[27, 38, 49], 27) := by decide +kernel
theorem dX6_placesFor_28 : decode cX6_placesFor 28 = .ok (.iload_n 1, 1) := by decide +kernel
theorem dX6_placesFor_29 : decode cX6_placesFor 29 = .ok (.iconst 1, 1) := by decide +kernel
theorem dX6_placesFor_30 : decode cX6_placesFor 30 = .ok (.if_icmp .ne 7, 3) := by decide +kernel
theorem dX6_placesFor_33 : decode cX6_placesFor 33 = .ok (.iconst 2, 1) := by decide +kernel
theorem dX6_placesFor_34 : decode cX6_placesFor 34 = .ok (.goto 4, 3) := by decide +kernel
theorem dX6_placesFor_37 : decode cX6_placesFor 37 = .ok (.iconst 0, 1) := by decide +kernel
theorem dX6_placesFor_38 : decode cX6_placesFor 38 = .ok (.ireturn, 1) := by decide +kernel
theorem dX6_placesFor_39 : decode cX6_placesFor 39 = .ok (.iload_n 1, 1) := by decide +kernel
theorem dX6_placesFor_40 : decode cX6_placesFor 40 = .ok (.iconst 2, 1) := by decide +kernel
theorem dX6_placesFor_41 : decode cX6_placesFor 41 = .ok (.if_icmp .ne 7, 3) := by decide +kernel
theorem dX6_placesFor_44 : decode cX6_placesFor 44 = .ok (.iconst 2, 1) := by decide +kernel
theorem dX6_placesFor_45 : decode cX6_placesFor 45 = .ok (.goto 4, 3) := by decide +kernel
theorem dX6_placesFor_48 : decode cX6_placesFor 48 = .ok (.iconst 0, 1) := by decide +kernel
theorem dX6_placesFor_49 : decode cX6_placesFor 49 = .ok (.ireturn, 1) := by decide +kernel
theorem dX6_placesFor_50 : decode cX6_placesFor 50 = .ok (.iload_n 1, 1) := by decide +kernel
theorem dX6_placesFor_51 : decode cX6_placesFor 51 = .ok (.iconst 3, 1) := by decide +kernel
theorem dX6_placesFor_52 : decode cX6_placesFor 52 = .ok (.if_icmp .ne 7, 3) := by decide +kernel
theorem dX6_placesFor_55 : decode cX6_placesFor 55 = .ok (.iconst 2, 1) := by decide +kernel
theorem dX6_placesFor_56 : decode cX6_placesFor 56 = .ok (.goto 13, 3) := by decide +kernel
theorem dX6_placesFor_59 : decode cX6_placesFor 59 = .ok (.iload_n 1, 1) := by decide +kernel
theorem dX6_placesFor_60 : decode cX6_placesFor 60 = .ok (.iconst 4, 1) := by decide +kernel
theorem dX6_placesFor_61 : decode cX6_placesFor 61 = .ok (.if_icmp .ne 7, 3) := by decide +kernel
theorem dX6_placesFor_64 : decode cX6_placesFor 64 = .ok (.iconst 1, 1) := by decide +kernel
theorem dX6_placesFor_65 : decode cX6_placesFor 65 = .ok (.goto 4, 3) := by decide +kernel
theorem dX6_placesFor_68 : decode cX6_placesFor 68 = .ok (.iconst 0, 1) := by decide +kernel
theorem dX6_placesFor_69 : decode cX6_placesFor 69 = .ok (.ireturn, 1) := by decide +kernel
theorem dX6_placesFor_70 : decode cX6_placesFor 70 = .ok (.iconst 0, 1) := by decide +kernel
theorem dX6_placesFor_71 : decode cX6_placesFor 71 = .ok (.ireturn, 1) := by decide +kernel
theorem dX6_inside_0 : decode cX6_inside 0 = .ok (.iconst 0, 1) := by decide +kernel
theorem dX6_inside_1 : decode cX6_inside 1 = .ok (.istore_n 3, 1) := by decide +kernel
theorem dX6_inside_2 : decode cX6_inside 2 = .ok (.iconst 0, 1) := by decide +kernel
theorem dX6_inside_3 : decode cX6_inside 3 = .ok (.istore 4, 2) := by decide +kernel
theorem dX6_inside_5 : decode cX6_inside 5 = .ok (.iload 4, 2) := by decide +kernel
theorem dX6_inside_7 : decode cX6_inside 7 = .ok (.aload_n 0, 1) := by decide +kernel
theorem dX6_inside_8 : decode cX6_inside 8 = .ok (.getfield 10, 3) := by decide +kernel
theorem dX6_inside_11 : decode cX6_inside 11 = .ok (.invokevirtual 52, 3) := by decide +kernel
theorem dX6_inside_14 : decode cX6_inside 14 = .ok (.if_icmp .ge 44, 3) := by decide +kernel
theorem dX6_inside_17 : decode cX6_inside 17 = .ok (.aload_n 0, 1) := by decide +kernel
theorem dX6_inside_18 : decode cX6_inside 18 = .ok (.getfield 10, 3) := by decide +kernel
theorem dX6_inside_21 : decode cX6_inside 21 = .ok (.iload 4, 2) := by decide +kernel
theorem dX6_inside_23 : decode cX6_inside 23 = .ok (.invokevirtual 171, 3) := by decide +kernel
theorem dX6_inside_26 : decode cX6_inside 26 = .ok (.checkcast 61, 3) := by decide +kernel
theorem dX6_inside_29 : decode cX6_inside 29 = .ok (.astore 5, 2) := by decide +kernel
theorem dX6_inside_31 : decode cX6_inside 31 = .ok (.aload 5, 2) := by decide +kernel
theorem dX6_inside_33 : decode cX6_inside 33 = .ok (.getfield 129, 3) := by decide +kernel
theorem dX6_inside_36 : decode cX6_inside 36 = .ok (.aload_n 1, 1) := by decide +kernel
theorem dX6_inside_37 : decode cX6_inside 37 = .ok (.if_acmp .ne 15, 3) := by decide +kernel
theorem dX6_inside_40 : decode cX6_inside 40 = .ok (.aload 5, 2) := by decide +kernel
theorem dX6_inside_42 : decode cX6_inside 42 = .ok (.getfield 87, 3) := by decide +kernel
theorem dX6_inside_45 : decode cX6_inside 45 = .ok (.iload_n 2, 1) := by decide +kernel
theorem dX6_inside_46 : decode cX6_inside 46 = .ok (.if_icmp .ne 6, 3) := by decide +kernel
theorem dX6_inside_49 : decode cX6_inside 49 = .ok (.iinc 3 1, 3) := by decide +kernel
theorem dX6_inside_52 : decode cX6_inside 52 = .ok (.iinc 4 1, 3) := by decide +kernel
theorem dX6_inside_55 : decode cX6_inside 55 = .ok (.goto (-50), 3) := by decide +kernel
theorem dX6_inside_58 : decode cX6_inside 58 = .ok (.iload_n 3, 1) := by decide +kernel
theorem dX6_inside_59 : decode cX6_inside 59 = .ok (.ireturn, 1) := by decide +kernel
theorem dX6_inside__0 : decode cX6_inside_ 0 = .ok (.iconst 0, 1) := by decide +kernel
theorem dX6_inside__1 : decode cX6_inside_ 1 = .ok (.istore_n 2, 1) := by decide +kernel
theorem dX6_inside__2 : decode cX6_inside_ 2 = .ok (.iconst 0, 1) := by decide +kernel
theorem dX6_inside__3 : decode cX6_inside_ 3 = .ok (.istore_n 3, 1) := by decide +kernel
theorem dX6_inside__4 : decode cX6_inside_ 4 = .ok (.iload_n 3, 1) := by decide +kernel
theorem dX6_inside__5 : decode cX6_inside_ 5 = .ok (.iconst 4, 1) := by decide +kernel
theorem dX6_inside__6 : decode cX6_inside_ 6 = .ok (.if_icmp .gt 18, 3) := by decide +kernel
theorem dX6_inside__9 : decode cX6_inside_ 9 = .ok (.iload_n 2, 1) := by decide +kernel
theorem dX6_inside__10 : decode cX6_inside_ 10 = .ok (.aload_n 0, 1) := by decide +kernel
theorem dX6_inside__11 : decode cX6_inside_ 11 = .ok (.aload_n 1, 1) := by decide +kernel
theorem dX6_inside__12 : decode cX6_inside_ 12 = .ok (.iload_n 3, 1) := by decide +kernel
theorem dX6_inside__13 : decode cX6_inside_ 13 = .ok (.invokevirtual 112, 3) := by decide +kernel
theorem dX6_inside__16 : decode cX6_inside_ 16 = .ok (.iadd, 1) := by decide +kernel
theorem dX6_inside__17 : decode cX6_inside_ 17 = .ok (.istore_n 2, 1) := by decide +kernel
theorem dX6_inside__18 : decode cX6_inside_ 18 = .ok (.iinc 3 1, 3) := by decide +kernel
theorem dX6_inside__21 : decode cX6_inside_ 21 = .ok (.goto (-17), 3) := by decide +kernel
theorem dX6_inside__24 : decode cX6_inside_ 24 = .ok (.iload_n 2, 1) := by decide +kernel
theorem dX6_inside__25 : decode cX6_inside_ 25 = .ok (.ireturn, 1) := by decide +kernel
theorem dX6_wheelIn_0 : decode cX6_wheelIn 0 = .ok (.iconst 0, 1) := by decide +kernel
theorem dX6_wheelIn_1 : decode cX6_wheelIn 1 = .ok (.istore_n 3, 1) := by decide +kernel
theorem dX6_wheelIn_2 : decode cX6_wheelIn 2 = .ok (.iconst 0, 1) := by decide +kernel
theorem dX6_wheelIn_3 : decode cX6_wheelIn 3 = .ok (.istore 4, 2) := by decide +kernel
theorem dX6_wheelIn_5 : decode cX6_wheelIn 5 = .ok (.iload 4, 2) := by decide +kernel
theorem dX6_wheelIn_7 : decode cX6_wheelIn 7 = .ok (.aload_n 0, 1) := by decide +kernel
theorem dX6_wheelIn_8 : decode cX6_wheelIn 8 = .ok (.getfield 10, 3) := by decide +kernel
theorem dX6_wheelIn_11 : decode cX6_wheelIn 11 = .ok (.invokevirtual 52, 3) := by decide +kernel
theorem dX6_wheelIn_14 : decode cX6_wheelIn 14 = .ok (.if_icmp .ge 54, 3) := by decide +kernel
theorem dX6_wheelIn_17 : decode cX6_wheelIn 17 = .ok (.aload_n 0, 1) := by decide +kernel
theorem dX6_wheelIn_18 : decode cX6_wheelIn 18 = .ok (.getfield 10, 3) := by decide +kernel
theorem dX6_wheelIn_21 : decode cX6_wheelIn 21 = .ok (.iload 4, 2) := by decide +kernel
theorem dX6_wheelIn_23 : decode cX6_wheelIn 23 = .ok (.invokevirtual 171, 3) := by decide +kernel
theorem dX6_wheelIn_26 : decode cX6_wheelIn 26 = .ok (.checkcast 61, 3) := by decide +kernel
theorem dX6_wheelIn_29 : decode cX6_wheelIn 29 = .ok (.astore 5, 2) := by decide +kernel
theorem dX6_wheelIn_31 : decode cX6_wheelIn 31 = .ok (.aload 5, 2) := by decide +kernel
theorem dX6_wheelIn_33 : decode cX6_wheelIn 33 = .ok (.getfield 129, 3) := by decide +kernel
theorem dX6_wheelIn_36 : decode cX6_wheelIn 36 = .ok (.aload_n 1, 1) := by decide +kernel
theorem dX6_wheelIn_37 : decode cX6_wheelIn 37 = .ok (.if_acmp .ne 25, 3) := by decide +kernel
theorem dX6_wheelIn_40 : decode cX6_wheelIn 40 = .ok (.aload 5, 2) := by decide +kernel
theorem dX6_wheelIn_42 : decode cX6_wheelIn 42 = .ok (.getfield 345, 3) := by decide +kernel
theorem dX6_wheelIn_45 : decode cX6_wheelIn 45 = .ok (.ifnull 17, 3) := by decide +kernel
theorem dX6_wheelIn_48 : decode cX6_wheelIn 48 = .ok (.iload_n 3, 1) := by decide +kernel
theorem dX6_wheelIn_49 : decode cX6_wheelIn 49 = .ok (.iload_n 2, 1) := by decide +kernel
theorem dX6_wheelIn_50 : decode cX6_wheelIn 50 = .ok (.if_icmp .ne 9, 3) := by decide +kernel
theorem dX6_wheelIn_53 : decode cX6_wheelIn 53 = .ok (.aload 5, 2) := by decide +kernel
theorem dX6_wheelIn_55 : decode cX6_wheelIn 55 = .ok (.getfield 345, 3) := by decide +kernel
theorem dX6_wheelIn_58 : decode cX6_wheelIn 58 = .ok (.areturn, 1) := by decide +kernel
theorem dX6_wheelIn_59 : decode cX6_wheelIn 59 = .ok (.iinc 3 1, 3) := by decide +kernel
theorem dX6_wheelIn_62 : decode cX6_wheelIn 62 = .ok (.iinc 4 1, 3) := by decide +kernel
theorem dX6_wheelIn_65 : decode cX6_wheelIn 65 = .ok (.goto (-60), 3) := by decide +kernel
theorem dX6_wheelIn_68 : decode cX6_wheelIn 68 = .ok (.aconst_null, 1) := by decide +kernel
theorem dX6_wheelIn_69 : decode cX6_wheelIn 69 = .ok (.areturn, 1) := by decide +kernel
theorem dX6_quarantineTree_0 : decode cX6_quarantineTree 0 = .ok (.iconst 0, 1) := by decide +kernel
theorem dX6_quarantineTree_1 : decode cX6_quarantineTree 1 = .ok (.istore_n 2, 1) := by decide +kernel
theorem dX6_quarantineTree_2 : decode cX6_quarantineTree 2 = .ok (.iload_n 2, 1) := by decide +kernel
theorem dX6_quarantineTree_3 : decode cX6_quarantineTree 3 = .ok (.aload_n 0, 1) := by decide +kernel
theorem dX6_quarantineTree_4 : decode cX6_quarantineTree 4 = .ok (.getfield 10, 3) := by decide +kernel
theorem dX6_quarantineTree_7 : decode cX6_quarantineTree 7 = .ok (.invokevirtual 52, 3) := by decide +kernel
theorem dX6_quarantineTree_10 : decode cX6_quarantineTree 10 = .ok (.if_icmp .ge 34, 3) := by decide +kernel
theorem dX6_quarantineTree_13 : decode cX6_quarantineTree 13 = .ok (.aload_n 0, 1) := by decide +kernel
theorem dX6_quarantineTree_14 : decode cX6_quarantineTree 14 = .ok (.getfield 10, 3) := by decide +kernel
theorem dX6_quarantineTree_17 : decode cX6_quarantineTree 17 = .ok (.iload_n 2, 1) := by decide +kernel
theorem dX6_quarantineTree_18 : decode cX6_quarantineTree 18 = .ok (.invokevirtual 171, 3) := by decide +kernel
theorem dX6_quarantineTree_21 : decode cX6_quarantineTree 21 = .ok (.checkcast 61, 3) := by decide +kernel
theorem dX6_quarantineTree_24 : decode cX6_quarantineTree 24 = .ok (.astore_n 3, 1) := by decide +kernel
theorem dX6_quarantineTree_25 : decode cX6_quarantineTree 25 = .ok (.aload_n 3, 1) := by decide +kernel
theorem dX6_quarantineTree_26 : decode cX6_quarantineTree 26 = .ok (.invokevirtual 137, 3) := by decide +kernel
theorem dX6_quarantineTree_29 : decode cX6_quarantineTree 29 = .ok (.aload_n 1, 1) := by decide +kernel
theorem dX6_quarantineTree_30 : decode cX6_quarantineTree 30 = .ok (.if_acmp .ne 8, 3) := by decide +kernel
theorem dX6_quarantineTree_33 : decode cX6_quarantineTree 33 = .ok (.aload_n 3, 1) := by decide +kernel
theorem dX6_quarantineTree_34 : decode cX6_quarantineTree 34 = .ok (.iconst 1, 1) := by decide +kernel
theorem dX6_quarantineTree_35 : decode cX6_quarantineTree 35 = .ok (.putfield 100, 3) := by decide +kernel
theorem dX6_quarantineTree_38 : decode cX6_quarantineTree 38 = .ok (.iinc 2 1, 3) := by decide +kernel
theorem dX6_quarantineTree_41 : decode cX6_quarantineTree 41 = .ok (.goto (-39), 3) := by decide +kernel
theorem dX6_quarantineTree_44 : decode cX6_quarantineTree 44 = .ok (.return_, 1) := by decide +kernel
theorem dX6_rubbing_0 : decode cX6_rubbing 0 = .ok (.iload_n 0, 1) := by decide +kernel
theorem dX6_rubbing_1 : decode cX6_rubbing 1 = .ok (.lookupswitch 31 #[(0, 27), (2, 29)], 27) := by decide +kernel
theorem dX6_rubbing_28 : decode cX6_rubbing 28 = .ok (.iconst 1, 1) := by decide +kernel
theorem dX6_rubbing_29 : decode cX6_rubbing 29 = .ok (.ireturn, 1) := by decide +kernel
theorem dX6_rubbing_30 : decode cX6_rubbing 30 = .ok (.iconst 3, 1) := by decide +kernel
theorem dX6_rubbing_31 : decode cX6_rubbing 31 = .ok (.ireturn, 1) := by decide +kernel
theorem dX6_rubbing_32 : decode cX6_rubbing 32 = .ok (.iconst 2, 1) := by decide +kernel
theorem dX6_rubbing_33 : decode cX6_rubbing 33 = .ok (.ireturn, 1) := by decide +kernel
theorem dX6_firstBar_0 : decode cX6_firstBar 0 = .ok (.iconst 1, 1) := by decide +kernel
theorem dX6_firstBar_1 : decode cX6_firstBar 1 = .ok (.istore_n 2, 1) := by decide +kernel
theorem dX6_firstBar_2 : decode cX6_firstBar 2 = .ok (.iload_n 2, 1) := by decide +kernel
theorem dX6_firstBar_3 : decode cX6_firstBar 3 = .ok (.bipush 7, 2) := by decide +kernel
theorem dX6_firstBar_5 : decode cX6_firstBar 5 = .ok (.if_icmp .gt 21, 3) := by decide +kernel
theorem dX6_firstBar_8 : decode cX6_firstBar 8 = .ok (.aload_n 0, 1) := by decide +kernel
theorem dX6_firstBar_9 : decode cX6_firstBar 9 = .ok (.aload_n 1, 1) := by decide +kernel
theorem dX6_firstBar_10 : decode cX6_firstBar 10 = .ok (.iload_n 2, 1) := by decide +kernel
theorem dX6_firstBar_11 : decode cX6_firstBar 11 = .ok (.invokevirtual 323, 3) := by decide +kernel
theorem dX6_firstBar_14 : decode cX6_firstBar 14 = .ok (.iconst (-1), 1) := by decide +kernel
theorem dX6_firstBar_15 : decode cX6_firstBar 15 = .ok (.if_icmp .eq 5, 3) := by decide +kernel
theorem dX6_firstBar_18 : decode cX6_firstBar 18 = .ok (.iload_n 2, 1) := by decide +kernel
theorem dX6_firstBar_19 : decode cX6_firstBar 19 = .ok (.ireturn, 1) := by decide +kernel
theorem dX6_firstBar_20 : decode cX6_firstBar 20 = .ok (.iinc 2 1, 3) := by decide +kernel
theorem dX6_firstBar_23 : decode cX6_firstBar 23 = .ok (.goto (-21), 3) := by decide +kernel
theorem dX6_firstBar_26 : decode cX6_firstBar 26 = .ok (.iconst 0, 1) := by decide +kernel
theorem dX6_firstBar_27 : decode cX6_firstBar 27 = .ok (.ireturn, 1) := by decide +kernel
theorem dX6_lowestBarring_0 : decode cX6_lowestBarring 0 = .ok (.iconst 0, 1) := by decide +kernel
theorem dX6_lowestBarring_1 : decode cX6_lowestBarring 1 = .ok (.istore_n 3, 1) := by decide +kernel
theorem dX6_lowestBarring_2 : decode cX6_lowestBarring 2 = .ok (.iload_n 3, 1) := by decide +kernel
theorem dX6_lowestBarring_3 : decode cX6_lowestBarring 3 = .ok (.aload_n 0, 1) := by decide +kernel
theorem dX6_lowestBarring_4 : decode cX6_lowestBarring 4 = .ok (.getfield 10, 3) := by decide +kernel
theorem dX6_lowestBarring_7 : decode cX6_lowestBarring 7 = .ok (.invokevirtual 52, 3) := by decide +kernel
theorem dX6_lowestBarring_10 : decode cX6_lowestBarring 10 = .ok (.if_icmp .ge 43, 3) := by decide +kernel
theorem dX6_lowestBarring_13 : decode cX6_lowestBarring 13 = .ok (.aload_n 0, 1) := by decide +kernel
theorem dX6_lowestBarring_14 : decode cX6_lowestBarring 14 = .ok (.getfield 10, 3) := by decide +kernel
theorem dX6_lowestBarring_17 : decode cX6_lowestBarring 17 = .ok (.iload_n 3, 1) := by decide +kernel
theorem dX6_lowestBarring_18 : decode cX6_lowestBarring 18 = .ok (.invokevirtual 171, 3) := by decide +kernel
theorem dX6_lowestBarring_21 : decode cX6_lowestBarring 21 = .ok (.checkcast 61, 3) := by decide +kernel
theorem dX6_lowestBarring_24 : decode cX6_lowestBarring 24 = .ok (.astore 4, 2) := by decide +kernel
theorem dX6_lowestBarring_26 : decode cX6_lowestBarring 26 = .ok (.aload 4, 2) := by decide +kernel
theorem dX6_lowestBarring_28 : decode cX6_lowestBarring 28 = .ok (.invokevirtual 137, 3) := by decide +kernel
theorem dX6_lowestBarring_31 : decode cX6_lowestBarring 31 = .ok (.aload_n 1, 1) := by decide +kernel
theorem dX6_lowestBarring_32 : decode cX6_lowestBarring 32 = .ok (.if_acmp .ne 15, 3) := by decide +kernel
theorem dX6_lowestBarring_35 : decode cX6_lowestBarring 35 = .ok (.aload_n 0, 1) := by decide +kernel
theorem dX6_lowestBarring_36 : decode cX6_lowestBarring 36 = .ok (.aload 4, 2) := by decide +kernel
theorem dX6_lowestBarring_38 : decode cX6_lowestBarring 38 = .ok (.iload_n 2, 1) := by decide +kernel
theorem dX6_lowestBarring_39 : decode cX6_lowestBarring 39 = .ok (.invokevirtual 351, 3) := by decide +kernel
theorem dX6_lowestBarring_42 : decode cX6_lowestBarring 42 = .ok (.ifCond .eq 5, 3) := by decide +kernel
theorem dX6_lowestBarring_45 : decode cX6_lowestBarring 45 = .ok (.iload_n 3, 1) := by decide +kernel
theorem dX6_lowestBarring_46 : decode cX6_lowestBarring 46 = .ok (.ireturn, 1) := by decide +kernel
theorem dX6_lowestBarring_47 : decode cX6_lowestBarring 47 = .ok (.iinc 3 1, 3) := by decide +kernel
theorem dX6_lowestBarring_50 : decode cX6_lowestBarring 50 = .ok (.goto (-48), 3) := by decide +kernel
theorem dX6_lowestBarring_53 : decode cX6_lowestBarring 53 = .ok (.iconst (-1), 1) := by decide +kernel
theorem dX6_lowestBarring_54 : decode cX6_lowestBarring 54 = .ok (.ireturn, 1) := by decide +kernel
theorem dX6_isSo_0 : decode cX6_isSo 0 = .ok (.iload_n 2, 1) := by decide +kernel
theorem dX6_isSo_1 : decode cX6_isSo 1 = .ok (.tableswitch 123 1 7 #[43, 49, 54, 59, 89, 112, 118], 43) := by decide +kernel
theorem dX6_isSo_44 : decode cX6_isSo 44 = .ok (.aload_n 0, 1) := by decide +kernel
theorem dX6_isSo_45 : decode cX6_isSo 45 = .ok (.aload_n 1, 1) := by decide +kernel
theorem dX6_isSo_46 : decode cX6_isSo 46 = .ok (.invokevirtual 355, 3) := by decide +kernel
theorem dX6_isSo_49 : decode cX6_isSo 49 = .ok (.ireturn, 1) := by decide +kernel
theorem dX6_isSo_50 : decode cX6_isSo 50 = .ok (.aload_n 1, 1) := by decide +kernel
theorem dX6_isSo_51 : decode cX6_isSo 51 = .ok (.getfield 100, 3) := by decide +kernel
theorem dX6_isSo_54 : decode cX6_isSo 54 = .ok (.ireturn, 1) := by decide +kernel
theorem dX6_isSo_55 : decode cX6_isSo 55 = .ok (.aload_n 1, 1) := by decide +kernel
theorem dX6_isSo_56 : decode cX6_isSo 56 = .ok (.getfield 248, 3) := by decide +kernel
theorem dX6_isSo_59 : decode cX6_isSo 59 = .ok (.ireturn, 1) := by decide +kernel
theorem dX6_isSo_60 : decode cX6_isSo 60 = .ok (.aload_n 1, 1) := by decide +kernel
theorem dX6_isSo_61 : decode cX6_isSo 61 = .ok (.getfield 232, 3) := by decide +kernel
theorem dX6_isSo_64 : decode cX6_isSo 64 = .ok (.getfield 73, 3) := by decide +kernel
theorem dX6_isSo_67 : decode cX6_isSo 67 = .ok (.ifCond .le 21, 3) := by decide +kernel
theorem dX6_isSo_70 : decode cX6_isSo 70 = .ok (.aload_n 1, 1) := by decide +kernel
theorem dX6_isSo_71 : decode cX6_isSo 71 = .ok (.getfield 242, 3) := by decide +kernel
theorem dX6_isSo_74 : decode cX6_isSo 74 = .ok (.aload_n 1, 1) := by decide +kernel
theorem dX6_isSo_75 : decode cX6_isSo 75 = .ok (.getfield 232, 3) := by decide +kernel
theorem dX6_isSo_78 : decode cX6_isSo 78 = .ok (.getfield 73, 3) := by decide +kernel
theorem dX6_isSo_81 : decode cX6_isSo 81 = .ok (.if_icmp .le 7, 3) := by decide +kernel
theorem dX6_isSo_84 : decode cX6_isSo 84 = .ok (.iconst 1, 1) := by decide +kernel
theorem dX6_isSo_85 : decode cX6_isSo 85 = .ok (.goto 4, 3) := by decide +kernel
theorem dX6_isSo_88 : decode cX6_isSo 88 = .ok (.iconst 0, 1) := by decide +kernel
theorem dX6_isSo_89 : decode cX6_isSo 89 = .ok (.ireturn, 1) := by decide +kernel
theorem dX6_isSo_90 : decode cX6_isSo 90 = .ok (.aload_n 1, 1) := by decide +kernel
theorem dX6_isSo_91 : decode cX6_isSo 91 = .ok (.getfield 345, 3) := by decide +kernel
theorem dX6_isSo_94 : decode cX6_isSo 94 = .ok (.ifnull 17, 3) := by decide +kernel
theorem dX6_isSo_97 : decode cX6_isSo 97 = .ok (.aload_n 1, 1) := by decide +kernel
theorem dX6_isSo_98 : decode cX6_isSo 98 = .ok (.getfield 345, 3) := by decide +kernel
theorem dX6_isSo_101 : decode cX6_isSo 101 = .ok (.invokevirtual 358, 3) := by decide +kernel
theorem dX6_isSo_104 : decode cX6_isSo 104 = .ok (.ifCond .eq 7, 3) := by decide +kernel
theorem dX6_isSo_107 : decode cX6_isSo 107 = .ok (.iconst 1, 1) := by decide +kernel
theorem dX6_isSo_108 : decode cX6_isSo 108 = .ok (.goto 4, 3) := by decide +kernel
theorem dX6_isSo_111 : decode cX6_isSo 111 = .ok (.iconst 0, 1) := by decide +kernel
theorem dX6_isSo_112 : decode cX6_isSo 112 = .ok (.ireturn, 1) := by decide +kernel
theorem dX6_isSo_113 : decode cX6_isSo 113 = .ok (.aload_n 0, 1) := by decide +kernel
theorem dX6_isSo_114 : decode cX6_isSo 114 = .ok (.aload_n 1, 1) := by decide +kernel
theorem dX6_isSo_115 : decode cX6_isSo 115 = .ok (.invokevirtual 361, 3) := by decide +kernel
theorem dX6_isSo_118 : decode cX6_isSo 118 = .ok (.ireturn, 1) := by decide +kernel
theorem dX6_isSo_119 : decode cX6_isSo 119 = .ok (.aload_n 1, 1) := by decide +kernel
theorem dX6_isSo_120 : decode cX6_isSo 120 = .ok (.invokevirtual 364, 3) := by decide +kernel
theorem dX6_isSo_123 : decode cX6_isSo 123 = .ok (.ireturn, 1) := by decide +kernel
theorem dX6_isSo_124 : decode cX6_isSo 124 = .ok (.iconst 0, 1) := by decide +kernel
theorem dX6_isSo_125 : decode cX6_isSo 125 = .ok (.ireturn, 1) := by decide +kernel
theorem dX6_hasEmptyPlace_0 : decode cX6_hasEmptyPlace 0 = .ok (.iconst 0, 1) := by decide +kernel
theorem dX6_hasEmptyPlace_1 : decode cX6_hasEmptyPlace 1 = .ok (.istore_n 2, 1) := by decide +kernel
theorem dX6_hasEmptyPlace_2 : decode cX6_hasEmptyPlace 2 = .ok (.iload_n 2, 1) := by decide +kernel
theorem dX6_hasEmptyPlace_3 : decode cX6_hasEmptyPlace 3 = .ok (.iconst 4, 1) := by decide +kernel
theorem dX6_hasEmptyPlace_4 : decode cX6_hasEmptyPlace 4 = .ok (.if_icmp .gt 28, 3) := by decide +kernel
theorem dX6_hasEmptyPlace_7 : decode cX6_hasEmptyPlace 7 = .ok (.aload_n 0, 1) := by decide +kernel
theorem dX6_hasEmptyPlace_8 : decode cX6_hasEmptyPlace 8 = .ok (.aload_n 1, 1) := by decide +kernel
theorem dX6_hasEmptyPlace_9 : decode cX6_hasEmptyPlace 9 = .ok (.iload_n 2, 1) := by decide +kernel
theorem dX6_hasEmptyPlace_10 : decode cX6_hasEmptyPlace 10 = .ok (.invokevirtual 112, 3) := by decide +kernel
theorem dX6_hasEmptyPlace_13 : decode cX6_hasEmptyPlace 13 = .ok (.aload_n 1, 1) := by decide +kernel
theorem dX6_hasEmptyPlace_14 : decode cX6_hasEmptyPlace 14 = .ok (.getfield 87, 3) := by decide +kernel
theorem dX6_hasEmptyPlace_17 : decode cX6_hasEmptyPlace 17 = .ok (.iload_n 2, 1) := by decide +kernel
theorem dX6_hasEmptyPlace_18 : decode cX6_hasEmptyPlace 18 = .ok (.invokestatic 90, 3) := by decide +kernel
theorem dX6_hasEmptyPlace_21 : decode cX6_hasEmptyPlace 21 = .ok (.if_icmp .ge 5, 3) := by decide +kernel
theorem dX6_hasEmptyPlace_24 : decode cX6_hasEmptyPlace 24 = .ok (.iconst 1, 1) := by decide +kernel
theorem dX6_hasEmptyPlace_25 : decode cX6_hasEmptyPlace 25 = .ok (.ireturn, 1) := by decide +kernel
theorem dX6_hasEmptyPlace_26 : decode cX6_hasEmptyPlace 26 = .ok (.iinc 2 1, 3) := by decide +kernel
theorem dX6_hasEmptyPlace_29 : decode cX6_hasEmptyPlace 29 = .ok (.goto (-27), 3) := by decide +kernel
theorem dX6_hasEmptyPlace_32 : decode cX6_hasEmptyPlace 32 = .ok (.iconst 0, 1) := by decide +kernel
theorem dX6_hasEmptyPlace_33 : decode cX6_hasEmptyPlace 33 = .ok (.ireturn, 1) := by decide +kernel
theorem dX6_isApart_0 : decode cX6_isApart 0 = .ok (.aload_n 1, 1) := by decide +kernel
theorem dX6_isApart_1 : decode cX6_isApart 1 = .ok (.getfield 87, 3) := by decide +kernel
theorem dX6_isApart_4 : decode cX6_isApart 4 = .ok (.iconst 2, 1) := by decide +kernel
theorem dX6_isApart_5 : decode cX6_isApart 5 = .ok (.if_icmp .ne 13, 3) := by decide +kernel
theorem dX6_isApart_8 : decode cX6_isApart 8 = .ok (.aload_n 0, 1) := by decide +kernel
theorem dX6_isApart_9 : decode cX6_isApart 9 = .ok (.aload_n 1, 1) := by decide +kernel
theorem dX6_isApart_10 : decode cX6_isApart 10 = .ok (.invokevirtual 367, 3) := by decide +kernel
theorem dX6_isApart_13 : decode cX6_isApart 13 = .ok (.bipush 20, 2) := by decide +kernel
theorem dX6_isApart_15 : decode cX6_isApart 15 = .ok (.if_icmp .gt 21, 3) := by decide +kernel
theorem dX6_isApart_18 : decode cX6_isApart 18 = .ok (.aload_n 1, 1) := by decide +kernel
theorem dX6_isApart_19 : decode cX6_isApart 19 = .ok (.getfield 87, 3) := by decide +kernel
theorem dX6_isApart_22 : decode cX6_isApart 22 = .ok (.iconst 1, 1) := by decide +kernel
theorem dX6_isApart_23 : decode cX6_isApart 23 = .ok (.if_icmp .ne 17, 3) := by decide +kernel
theorem dX6_isApart_26 : decode cX6_isApart 26 = .ok (.aload_n 0, 1) := by decide +kernel
theorem dX6_isApart_27 : decode cX6_isApart 27 = .ok (.aload_n 1, 1) := by decide +kernel
theorem dX6_isApart_28 : decode cX6_isApart 28 = .ok (.invokevirtual 367, 3) := by decide +kernel
theorem dX6_isApart_31 : decode cX6_isApart 31 = .ok (.bipush 60, 2) := by decide +kernel
theorem dX6_isApart_33 : decode cX6_isApart 33 = .ok (.if_icmp .le 7, 3) := by decide +kernel
theorem dX6_isApart_36 : decode cX6_isApart 36 = .ok (.iconst 1, 1) := by decide +kernel
theorem dX6_isApart_37 : decode cX6_isApart 37 = .ok (.goto 4, 3) := by decide +kernel
theorem dX6_isApart_40 : decode cX6_isApart 40 = .ok (.iconst 0, 1) := by decide +kernel
theorem dX6_isApart_41 : decode cX6_isApart 41 = .ok (.ireturn, 1) := by decide +kernel
theorem dX6_spreadIn_0 : decode cX6_spreadIn 0 = .ok (.sipush 9000, 3) := by decide +kernel
theorem dX6_spreadIn_3 : decode cX6_spreadIn 3 = .ok (.istore_n 2, 1) := by decide +kernel
theorem dX6_spreadIn_4 : decode cX6_spreadIn 4 = .ok (.iconst 0, 1) := by decide +kernel
theorem dX6_spreadIn_5 : decode cX6_spreadIn 5 = .ok (.istore_n 3, 1) := by decide +kernel
theorem dX6_spreadIn_6 : decode cX6_spreadIn 6 = .ok (.iconst 0, 1) := by decide +kernel
theorem dX6_spreadIn_7 : decode cX6_spreadIn 7 = .ok (.istore 4, 2) := by decide +kernel
theorem dX6_spreadIn_9 : decode cX6_spreadIn 9 = .ok (.iload 4, 2) := by decide +kernel
theorem dX6_spreadIn_11 : decode cX6_spreadIn 11 = .ok (.aload_n 0, 1) := by decide +kernel
theorem dX6_spreadIn_12 : decode cX6_spreadIn 12 = .ok (.getfield 10, 3) := by decide +kernel
theorem dX6_spreadIn_15 : decode cX6_spreadIn 15 = .ok (.invokevirtual 52, 3) := by decide +kernel
theorem dX6_spreadIn_18 : decode cX6_spreadIn 18 = .ok (.if_icmp .ge 66, 3) := by decide +kernel
theorem dX6_spreadIn_21 : decode cX6_spreadIn 21 = .ok (.aload_n 0, 1) := by decide +kernel
theorem dX6_spreadIn_22 : decode cX6_spreadIn 22 = .ok (.getfield 10, 3) := by decide +kernel
theorem dX6_spreadIn_25 : decode cX6_spreadIn 25 = .ok (.iload 4, 2) := by decide +kernel
theorem dX6_spreadIn_27 : decode cX6_spreadIn 27 = .ok (.invokevirtual 171, 3) := by decide +kernel
theorem dX6_spreadIn_30 : decode cX6_spreadIn 30 = .ok (.checkcast 61, 3) := by decide +kernel
theorem dX6_spreadIn_33 : decode cX6_spreadIn 33 = .ok (.astore 5, 2) := by decide +kernel
theorem dX6_spreadIn_35 : decode cX6_spreadIn 35 = .ok (.aload 5, 2) := by decide +kernel
theorem dX6_spreadIn_37 : decode cX6_spreadIn 37 = .ok (.getfield 345, 3) := by decide +kernel
theorem dX6_spreadIn_40 : decode cX6_spreadIn 40 = .ok (.ifnull 38, 3) := by decide +kernel
theorem dX6_spreadIn_43 : decode cX6_spreadIn 43 = .ok (.aload 5, 2) := by decide +kernel
theorem dX6_spreadIn_45 : decode cX6_spreadIn 45 = .ok (.aload_n 1, 1) := by decide +kernel
theorem dX6_spreadIn_46 : decode cX6_spreadIn 46 = .ok (.invokevirtual 370, 3) := by decide +kernel
theorem dX6_spreadIn_49 : decode cX6_spreadIn 49 = .ok (.ifCond .eq 29, 3) := by decide +kernel
theorem dX6_spreadIn_52 : decode cX6_spreadIn 52 = .ok (.iload_n 2, 1) := by decide +kernel
theorem dX6_spreadIn_53 : decode cX6_spreadIn 53 = .ok (.aload 5, 2) := by decide +kernel
theorem dX6_spreadIn_55 : decode cX6_spreadIn 55 = .ok (.getfield 345, 3) := by decide +kernel
theorem dX6_spreadIn_58 : decode cX6_spreadIn 58 = .ok (.getfield 196, 3) := by decide +kernel
theorem dX6_spreadIn_61 : decode cX6_spreadIn 61 = .ok (.invokestatic 204, 3) := by decide +kernel
theorem dX6_spreadIn_64 : decode cX6_spreadIn 64 = .ok (.istore_n 2, 1) := by decide +kernel
theorem dX6_spreadIn_65 : decode cX6_spreadIn 65 = .ok (.iload_n 3, 1) := by decide +kernel
theorem dX6_spreadIn_66 : decode cX6_spreadIn 66 = .ok (.aload 5, 2) := by decide +kernel
theorem dX6_spreadIn_68 : decode cX6_spreadIn 68 = .ok (.getfield 345, 3) := by decide +kernel
theorem dX6_spreadIn_71 : decode cX6_spreadIn 71 = .ok (.getfield 196, 3) := by decide +kernel
theorem dX6_spreadIn_74 : decode cX6_spreadIn 74 = .ok (.invokestatic 320, 3) := by decide +kernel
theorem dX6_spreadIn_77 : decode cX6_spreadIn 77 = .ok (.istore_n 3, 1) := by decide +kernel
theorem dX6_spreadIn_78 : decode cX6_spreadIn 78 = .ok (.iinc 4 1, 3) := by decide +kernel
theorem dX6_spreadIn_81 : decode cX6_spreadIn 81 = .ok (.goto (-72), 3) := by decide +kernel
theorem dX6_spreadIn_84 : decode cX6_spreadIn 84 = .ok (.iload_n 3, 1) := by decide +kernel
theorem dX6_spreadIn_85 : decode cX6_spreadIn 85 = .ok (.iload_n 2, 1) := by decide +kernel
theorem dX6_spreadIn_86 : decode cX6_spreadIn 86 = .ok (.isub, 1) := by decide +kernel
theorem dX6_spreadIn_87 : decode cX6_spreadIn 87 = .ok (.ireturn, 1) := by decide +kernel
theorem dX7_init_0 : decode cX7_init 0 = .ok (.aload_n 0, 1) := by decide +kernel
theorem dX7_init_1 : decode cX7_init 1 = .ok (.invokespecial 1, 3) := by decide +kernel
theorem dX7_init_4 : decode cX7_init 4 = .ok (.aload_n 0, 1) := by decide +kernel
theorem dX7_init_5 : decode cX7_init 5 = .ok (.bipush 60, 2) := by decide +kernel
theorem dX7_init_7 : decode cX7_init 7 = .ok (.newarray .int, 2) := by decide +kernel
theorem dX7_init_9 : decode cX7_init 9 = .ok (.putfield 7, 3) := by decide +kernel
theorem dX7_init_12 : decode cX7_init 12 = .ok (.aload_n 0, 1) := by decide +kernel
theorem dX7_init_13 : decode cX7_init 13 = .ok (.bipush 60, 2) := by decide +kernel
theorem dX7_init_15 : decode cX7_init 15 = .ok (.newarray .int, 2) := by decide +kernel
theorem dX7_init_17 : decode cX7_init 17 = .ok (.putfield 13, 3) := by decide +kernel
theorem dX7_init_20 : decode cX7_init 20 = .ok (.aload_n 0, 1) := by decide +kernel
theorem dX7_init_21 : decode cX7_init 21 = .ok (.bipush 60, 2) := by decide +kernel
theorem dX7_init_23 : decode cX7_init 23 = .ok (.newarray .int, 2) := by decide +kernel
theorem dX7_init_25 : decode cX7_init 25 = .ok (.putfield 16, 3) := by decide +kernel
theorem dX7_init_28 : decode cX7_init 28 = .ok (.aload_n 0, 1) := by decide +kernel
theorem dX7_init_29 : decode cX7_init 29 = .ok (.bipush 60, 2) := by decide +kernel
theorem dX7_init_31 : decode cX7_init 31 = .ok (.newarray .int, 2) := by decide +kernel
theorem dX7_init_33 : decode cX7_init 33 = .ok (.putfield 19, 3) := by decide +kernel
theorem dX7_init_36 : decode cX7_init 36 = .ok (.aload_n 0, 1) := by decide +kernel
theorem dX7_init_37 : decode cX7_init 37 = .ok (.bipush 60, 2) := by decide +kernel
theorem dX7_init_39 : decode cX7_init 39 = .ok (.newarray .int, 2) := by decide +kernel
theorem dX7_init_41 : decode cX7_init 41 = .ok (.putfield 22, 3) := by decide +kernel
theorem dX7_init_44 : decode cX7_init 44 = .ok (.aload_n 0, 1) := by decide +kernel
theorem dX7_init_45 : decode cX7_init 45 = .ok (.bipush 60, 2) := by decide +kernel
theorem dX7_init_47 : decode cX7_init 47 = .ok (.newarray .int, 2) := by decide +kernel
theorem dX7_init_49 : decode cX7_init 49 = .ok (.putfield 25, 3) := by decide +kernel
theorem dX7_init_52 : decode cX7_init 52 = .ok (.aload_n 0, 1) := by decide +kernel
theorem dX7_init_53 : decode cX7_init 53 = .ok (.bipush 60, 2) := by decide +kernel
theorem dX7_init_55 : decode cX7_init 55 = .ok (.newarray .int, 2) := by decide +kernel
theorem dX7_init_57 : decode cX7_init 57 = .ok (.putfield 28, 3) := by decide +kernel
theorem dX7_init_60 : decode cX7_init 60 = .ok (.aload_n 0, 1) := by decide +kernel
theorem dX7_init_61 : decode cX7_init 61 = .ok (.bipush 60, 2) := by decide +kernel
theorem dX7_init_63 : decode cX7_init 63 = .ok (.newarray .boolean, 2) := by decide +kernel
theorem dX7_init_65 : decode cX7_init 65 = .ok (.putfield 31, 3) := by decide +kernel
theorem dX7_init_68 : decode cX7_init 68 = .ok (.aload_n 0, 1) := by decide +kernel
theorem dX7_init_69 : decode cX7_init 69 = .ok (.bipush 60, 2) := by decide +kernel
theorem dX7_init_71 : decode cX7_init 71 = .ok (.newarray .boolean, 2) := by decide +kernel
theorem dX7_init_73 : decode cX7_init 73 = .ok (.putfield 35, 3) := by decide +kernel
theorem dX7_init_76 : decode cX7_init 76 = .ok (.aload_n 0, 1) := by decide +kernel
theorem dX7_init_77 : decode cX7_init 77 = .ok (.bipush 60, 2) := by decide +kernel
theorem dX7_init_79 : decode cX7_init 79 = .ok (.newarray .boolean, 2) := by decide +kernel
theorem dX7_init_81 : decode cX7_init 81 = .ok (.putfield 38, 3) := by decide +kernel
theorem dX7_init_84 : decode cX7_init 84 = .ok (.aload_n 0, 1) := by decide +kernel
theorem dX7_init_85 : decode cX7_init 85 = .ok (.bipush 60, 2) := by decide +kernel
theorem dX7_init_87 : decode cX7_init 87 = .ok (.newarray .boolean, 2) := by decide +kernel
theorem dX7_init_89 : decode cX7_init 89 = .ok (.putfield 41, 3) := by decide +kernel
theorem dX7_init_92 : decode cX7_init 92 = .ok (.aload_n 0, 1) := by decide +kernel
theorem dX7_init_93 : decode cX7_init 93 = .ok (.bipush 60, 2) := by decide +kernel
theorem dX7_init_95 : decode cX7_init 95 = .ok (.newarray .int, 2) := by decide +kernel
theorem dX7_init_97 : decode cX7_init 97 = .ok (.putfield 44, 3) := by decide +kernel
theorem dX7_init_100 : decode cX7_init 100 = .ok (.aload_n 0, 1) := by decide +kernel
theorem dX7_init_101 : decode cX7_init 101 = .ok (.bipush 60, 2) := by decide +kernel
theorem dX7_init_103 : decode cX7_init 103 = .ok (.newarray .int, 2) := by decide +kernel
theorem dX7_init_105 : decode cX7_init 105 = .ok (.putfield 47, 3) := by decide +kernel
theorem dX7_init_108 : decode cX7_init 108 = .ok (.aload_n 0, 1) := by decide +kernel
theorem dX7_init_109 : decode cX7_init 109 = .ok (.bipush 60, 2) := by decide +kernel
theorem dX7_init_111 : decode cX7_init 111 = .ok (.newarray .int, 2) := by decide +kernel
theorem dX7_init_113 : decode cX7_init 113 = .ok (.putfield 50, 3) := by decide +kernel
theorem dX7_init_116 : decode cX7_init 116 = .ok (.aload_n 0, 1) := by decide +kernel
theorem dX7_init_117 : decode cX7_init 117 = .ok (.bipush 60, 2) := by decide +kernel
theorem dX7_init_119 : decode cX7_init 119 = .ok (.newarray .int, 2) := by decide +kernel
theorem dX7_init_121 : decode cX7_init 121 = .ok (.putfield 53, 3) := by decide +kernel
theorem dX7_init_124 : decode cX7_init 124 = .ok (.aload_n 0, 1) := by decide +kernel
theorem dX7_init_125 : decode cX7_init 125 = .ok (.bipush 60, 2) := by decide +kernel
theorem dX7_init_127 : decode cX7_init 127 = .ok (.newarray .boolean, 2) := by decide +kernel
theorem dX7_init_129 : decode cX7_init 129 = .ok (.putfield 56, 3) := by decide +kernel
theorem dX7_init_132 : decode cX7_init 132 = .ok (.aload_n 0, 1) := by decide +kernel
theorem dX7_init_133 : decode cX7_init 133 = .ok (.bipush 60, 2) := by decide +kernel
theorem dX7_init_135 : decode cX7_init 135 = .ok (.newarray .int, 2) := by decide +kernel
theorem dX7_init_137 : decode cX7_init 137 = .ok (.putfield 59, 3) := by decide +kernel
theorem dX7_init_140 : decode cX7_init 140 = .ok (.aload_n 0, 1) := by decide +kernel
theorem dX7_init_141 : decode cX7_init 141 = .ok (.bipush 60, 2) := by decide +kernel
theorem dX7_init_143 : decode cX7_init 143 = .ok (.newarray .int, 2) := by decide +kernel
theorem dX7_init_145 : decode cX7_init 145 = .ok (.putfield 62, 3) := by decide +kernel
theorem dX7_init_148 : decode cX7_init 148 = .ok (.aload_n 0, 1) := by decide +kernel
theorem dX7_init_149 : decode cX7_init 149 = .ok (.iconst 5, 1) := by decide +kernel
theorem dX7_init_150 : decode cX7_init 150 = .ok (.newarray .int, 2) := by decide +kernel
theorem dX7_init_152 : decode cX7_init 152 = .ok (.putfield 65, 3) := by decide +kernel
theorem dX7_init_155 : decode cX7_init 155 = .ok (.aload_n 0, 1) := by decide +kernel
theorem dX7_init_156 : decode cX7_init 156 = .ok (.iconst 5, 1) := by decide +kernel
theorem dX7_init_157 : decode cX7_init 157 = .ok (.newarray .int, 2) := by decide +kernel
theorem dX7_init_159 : decode cX7_init 159 = .ok (.putfield 68, 3) := by decide +kernel
theorem dX7_init_162 : decode cX7_init 162 = .ok (.aload_n 0, 1) := by decide +kernel
theorem dX7_init_163 : decode cX7_init 163 = .ok (.iconst 5, 1) := by decide +kernel
theorem dX7_init_164 : decode cX7_init 164 = .ok (.newarray .int, 2) := by decide +kernel
theorem dX7_init_166 : decode cX7_init 166 = .ok (.putfield 71, 3) := by decide +kernel
theorem dX7_init_169 : decode cX7_init 169 = .ok (.aload_n 0, 1) := by decide +kernel
theorem dX7_init_170 : decode cX7_init 170 = .ok (.sipush 4000, 3) := by decide +kernel
theorem dX7_init_173 : decode cX7_init 173 = .ok (.newarray .int, 2) := by decide +kernel
theorem dX7_init_175 : decode cX7_init 175 = .ok (.putfield 74, 3) := by decide +kernel
theorem dX7_init_178 : decode cX7_init 178 = .ok (.aload_n 0, 1) := by decide +kernel
theorem dX7_init_179 : decode cX7_init 179 = .ok (.sipush 4000, 3) := by decide +kernel
theorem dX7_init_182 : decode cX7_init 182 = .ok (.newarray .int, 2) := by decide +kernel
theorem dX7_init_184 : decode cX7_init 184 = .ok (.putfield 77, 3) := by decide +kernel
theorem dX7_init_187 : decode cX7_init 187 = .ok (.aload_n 0, 1) := by decide +kernel
theorem dX7_init_188 : decode cX7_init 188 = .ok (.bipush 8, 2) := by decide +kernel
theorem dX7_init_190 : decode cX7_init 190 = .ok (.newarray .int, 2) := by decide +kernel
theorem dX7_init_192 : decode cX7_init 192 = .ok (.putfield 80, 3) := by decide +kernel
theorem dX7_init_195 : decode cX7_init 195 = .ok (.aload_n 0, 1) := by decide +kernel
theorem dX7_init_196 : decode cX7_init 196 = .ok (.bipush 60, 2) := by decide +kernel
theorem dX7_init_198 : decode cX7_init 198 = .ok (.newarray .int, 2) := by decide +kernel
theorem dX7_init_200 : decode cX7_init 200 = .ok (.putfield 83, 3) := by decide +kernel
theorem dX7_init_203 : decode cX7_init 203 = .ok (.aload_n 0, 1) := by decide +kernel
theorem dX7_init_204 : decode cX7_init 204 = .ok (.bipush 8, 2) := by decide +kernel
theorem dX7_init_206 : decode cX7_init 206 = .ok (.newarray .int, 2) := by decide +kernel
theorem dX7_init_208 : decode cX7_init 208 = .ok (.putfield 86, 3) := by decide +kernel
theorem dX7_init_211 : decode cX7_init 211 = .ok (.aload_n 0, 1) := by decide +kernel
theorem dX7_init_212 : decode cX7_init 212 = .ok (.bipush 8, 2) := by decide +kernel
theorem dX7_init_214 : decode cX7_init 214 = .ok (.newarray .int, 2) := by decide +kernel
theorem dX7_init_216 : decode cX7_init 216 = .ok (.putfield 89, 3) := by decide +kernel
theorem dX7_init_219 : decode cX7_init 219 = .ok (.aload_n 0, 1) := by decide +kernel
theorem dX7_init_220 : decode cX7_init 220 = .ok (.iconst 3, 1) := by decide +kernel
theorem dX7_init_221 : decode cX7_init 221 = .ok (.newarray .int, 2) := by decide +kernel
theorem dX7_init_223 : decode cX7_init 223 = .ok (.putfield 92, 3) := by decide +kernel
theorem dX7_init_226 : decode cX7_init 226 = .ok (.aload_n 0, 1) := by decide +kernel
theorem dX7_init_227 : decode cX7_init 227 = .ok (.bipush 12, 2) := by decide +kernel
theorem dX7_init_229 : decode cX7_init 229 = .ok (.newarray .int, 2) := by decide +kernel
theorem dX7_init_231 : decode cX7_init 231 = .ok (.putfield 95, 3) := by decide +kernel
theorem dX7_init_234 : decode cX7_init 234 = .ok (.aload_n 0, 1) := by decide +kernel
theorem dX7_init_235 : decode cX7_init 235 = .ok (.iconst 0, 1) := by decide +kernel
theorem dX7_init_236 : decode cX7_init 236 = .ok (.putfield 98, 3) := by decide +kernel
theorem dX7_init_239 : decode cX7_init 239 = .ok (.return_, 1) := by decide +kernel
theorem dX7_thrown_0 : decode cX7_thrown 0 = .ok (.aload_n 0, 1) := by decide +kernel
theorem dX7_thrown_1 : decode cX7_thrown 1 = .ok (.getfield 98, 3) := by decide +kernel
theorem dX7_thrown_4 : decode cX7_thrown 4 = .ok (.ireturn, 1) := by decide +kernel
theorem dX7_in_0 : decode cX7_in 0 = .ok (.iload_n 0, 1) := by decide +kernel
theorem dX7_in_1 : decode cX7_in 1 = .ok (.iload_n 1, 1) := by decide +kernel
theorem dX7_in_2 : decode cX7_in 2 = .ok (.if_icmp .lt 12, 3) := by decide +kernel
theorem dX7_in_5 : decode cX7_in 5 = .ok (.iload_n 0, 1) := by decide +kernel
theorem dX7_in_6 : decode cX7_in 6 = .ok (.iload_n 2, 1) := by decide +kernel
theorem dX7_in_7 : decode cX7_in 7 = .ok (.if_icmp .gt 7, 3) := by decide +kernel
theorem dX7_in_10 : decode cX7_in 10 = .ok (.iconst 1, 1) := by decide +kernel
theorem dX7_in_11 : decode cX7_in 11 = .ok (.goto 4, 3) := by decide +kernel
theorem dX7_in_14 : decode cX7_in 14 = .ok (.iconst 0, 1) := by decide +kernel
theorem dX7_in_15 : decode cX7_in 15 = .ok (.ireturn, 1) := by decide +kernel
theorem dX7_isPart_0 : decode cX7_isPart 0 = .ok (.iload_n 1, 1) := by decide +kernel
theorem dX7_isPart_1 : decode cX7_isPart 1 = .ok (.iconst 0, 1) := by decide +kernel
theorem dX7_isPart_2 : decode cX7_isPart 2 = .ok (.aload_n 0, 1) := by decide +kernel
theorem dX7_isPart_3 : decode cX7_isPart 3 = .ok (.getfield 102, 3) := by decide +kernel
theorem dX7_isPart_6 : decode cX7_isPart 6 = .ok (.iconst 1, 1) := by decide +kernel
theorem dX7_isPart_7 : decode cX7_isPart 7 = .ok (.isub, 1) := by decide +kernel
theorem dX7_isPart_8 : decode cX7_isPart 8 = .ok (.invokestatic 105, 3) := by decide +kernel
theorem dX7_isPart_11 : decode cX7_isPart 11 = .ok (.ireturn, 1) := by decide +kernel
theorem dX7_kindCode_0 : decode cX7_kindCode 0 = .ok (.aload_n 0, 1) := by decide +kernel
theorem dX7_kindCode_1 : decode cX7_kindCode 1 = .ok (.iload_n 1, 1) := by decide +kernel
theorem dX7_kindCode_2 : decode cX7_kindCode 2 = .ok (.invokevirtual 109, 3) := by decide +kernel
theorem dX7_kindCode_5 : decode cX7_kindCode 5 = .ok (.ifCond .ne 7, 3) := by decide +kernel
theorem dX7_kindCode_8 : decode cX7_kindCode 8 = .ok (.iconst 1, 1) := by decide +kernel
theorem dX7_kindCode_9 : decode cX7_kindCode 9 = .ok (.goto 18, 3) := by decide +kernel
theorem dX7_kindCode_12 : decode cX7_kindCode 12 = .ok (.aload_n 0, 1) := by decide +kernel
theorem dX7_kindCode_13 : decode cX7_kindCode 13 = .ok (.getfield 7, 3) := by decide +kernel
theorem dX7_kindCode_16 : decode cX7_kindCode 16 = .ok (.iload_n 1, 1) := by decide +kernel
theorem dX7_kindCode_17 : decode cX7_kindCode 17 = .ok (.iaload, 1) := by decide +kernel
theorem dX7_kindCode_18 : decode cX7_kindCode 18 = .ok (.iload_n 2, 1) := by decide +kernel
theorem dX7_kindCode_19 : decode cX7_kindCode 19 = .ok (.if_icmp .ne 7, 3) := by decide +kernel
theorem dX7_kindCode_22 : decode cX7_kindCode 22 = .ok (.iconst 0, 1) := by decide +kernel
theorem dX7_kindCode_23 : decode cX7_kindCode 23 = .ok (.goto 4, 3) := by decide +kernel
theorem dX7_kindCode_26 : decode cX7_kindCode 26 = .ok (.iconst 2, 1) := by decide +kernel
theorem dX7_kindCode_27 : decode cX7_kindCode 27 = .ok (.ireturn, 1) := by decide +kernel
theorem dX7_part_0 : decode cX7_part 0 = .ok (.aload_n 0, 1) := by decide +kernel
theorem dX7_part_1 : decode cX7_part 1 = .ok (.iload_n 1, 1) := by decide +kernel
theorem dX7_part_2 : decode cX7_part 2 = .ok (.iconst 0, 1) := by decide +kernel
theorem dX7_part_3 : decode cX7_part 3 = .ok (.iconst 4, 1) := by decide +kernel
theorem dX7_part_4 : decode cX7_part 4 = .ok (.invokestatic 105, 3) := by decide +kernel
theorem dX7_part_7 : decode cX7_part 7 = .ok (.ifCond .eq 22, 3) := by decide +kernel
theorem dX7_part_10 : decode cX7_part 10 = .ok (.iload_n 2, 1) := by decide +kernel
theorem dX7_part_11 : decode cX7_part 11 = .ok (.iconst 0, 1) := by decide +kernel
theorem dX7_part_12 : decode cX7_part 12 = .ok (.bipush 9, 2) := by decide +kernel
theorem dX7_part_14 : decode cX7_part 14 = .ok (.invokestatic 105, 3) := by decide +kernel
theorem dX7_part_17 : decode cX7_part 17 = .ok (.ifCond .eq 12, 3) := by decide +kernel
theorem dX7_part_20 : decode cX7_part 20 = .ok (.iload_n 3, 1) := by decide +kernel
theorem dX7_part_21 : decode cX7_part 21 = .ok (.iconst 0, 1) := by decide +kernel
theorem dX7_part_22 : decode cX7_part 22 = .ok (.iconst 3, 1) := by decide +kernel
theorem dX7_part_23 : decode cX7_part 23 = .ok (.invokestatic 105, 3) := by decide +kernel
theorem dX7_part_26 : decode cX7_part 26 = .ok (.ifCond .ne 7, 3) := by decide +kernel
theorem dX7_part_29 : decode cX7_part 29 = .ok (.iconst 1, 1) := by decide +kernel
theorem dX7_part_30 : decode cX7_part 30 = .ok (.goto 17, 3) := by decide +kernel
theorem dX7_part_33 : decode cX7_part 33 = .ok (.aload_n 0, 1) := by decide +kernel
theorem dX7_part_34 : decode cX7_part 34 = .ok (.getfield 102, 3) := by decide +kernel
theorem dX7_part_37 : decode cX7_part 37 = .ok (.bipush 60, 2) := by decide +kernel
theorem dX7_part_39 : decode cX7_part 39 = .ok (.if_icmp .ne 7, 3) := by decide +kernel
theorem dX7_part_42 : decode cX7_part 42 = .ok (.iconst 2, 1) := by decide +kernel
theorem dX7_part_43 : decode cX7_part 43 = .ok (.goto 4, 3) := by decide +kernel
theorem dX7_part_46 : decode cX7_part 46 = .ok (.iconst 0, 1) := by decide +kernel
theorem dX7_part_47 : decode cX7_part 47 = .ok (.putfield 98, 3) := by decide +kernel
theorem dX7_part_50 : decode cX7_part 50 = .ok (.aload_n 0, 1) := by decide +kernel
theorem dX7_part_51 : decode cX7_part 51 = .ok (.getfield 98, 3) := by decide +kernel
theorem dX7_part_54 : decode cX7_part 54 = .ok (.ifCond .le 5, 3) := by decide +kernel
theorem dX7_part_57 : decode cX7_part 57 = .ok (.iconst 0, 1) := by decide +kernel
theorem dX7_part_58 : decode cX7_part 58 = .ok (.ireturn, 1) := by decide +kernel
theorem dX7_part_59 : decode cX7_part 59 = .ok (.aload_n 0, 1) := by decide +kernel
theorem dX7_part_60 : decode cX7_part 60 = .ok (.getfield 7, 3) := by decide +kernel
theorem dX7_part_63 : decode cX7_part 63 = .ok (.aload_n 0, 1) := by decide +kernel
theorem dX7_part_64 : decode cX7_part 64 = .ok (.getfield 102, 3) := by decide +kernel
theorem dX7_part_67 : decode cX7_part 67 = .ok (.iload_n 1, 1) := by decide +kernel
theorem dX7_part_68 : decode cX7_part 68 = .ok (.iastore, 1) := by decide +kernel
theorem dX7_part_69 : decode cX7_part 69 = .ok (.aload_n 0, 1) := by decide +kernel
theorem dX7_part_70 : decode cX7_part 70 = .ok (.getfield 13, 3) := by decide +kernel
theorem dX7_part_73 : decode cX7_part 73 = .ok (.aload_n 0, 1) := by decide +kernel
theorem dX7_part_74 : decode cX7_part 74 = .ok (.getfield 102, 3) := by decide +kernel
theorem dX7_part_77 : decode cX7_part 77 = .ok (.iload_n 2, 1) := by decide +kernel
theorem dX7_part_78 : decode cX7_part 78 = .ok (.iastore, 1) := by decide +kernel
theorem dX7_part_79 : decode cX7_part 79 = .ok (.aload_n 0, 1) := by decide +kernel
theorem dX7_part_80 : decode cX7_part 80 = .ok (.getfield 16, 3) := by decide +kernel
theorem dX7_part_83 : decode cX7_part 83 = .ok (.aload_n 0, 1) := by decide +kernel
theorem dX7_part_84 : decode cX7_part 84 = .ok (.getfield 102, 3) := by decide +kernel
theorem dX7_part_87 : decode cX7_part 87 = .ok (.iload_n 3, 1) := by decide +kernel
theorem dX7_part_88 : decode cX7_part 88 = .ok (.iastore, 1) := by decide +kernel
theorem dX7_part_89 : decode cX7_part 89 = .ok (.aload_n 0, 1) := by decide +kernel
theorem dX7_part_90 : decode cX7_part 90 = .ok (.getfield 19, 3) := by decide +kernel
theorem dX7_part_93 : decode cX7_part 93 = .ok (.aload_n 0, 1) := by decide +kernel
theorem dX7_part_94 : decode cX7_part 94 = .ok (.getfield 102, 3) := by decide +kernel
theorem dX7_part_97 : decode cX7_part 97 = .ok (.iconst (-1), 1) := by decide +kernel
theorem dX7_part_98 : decode cX7_part 98 = .ok (.iastore, 1) := by decide +kernel
theorem dX7_part_99 : decode cX7_part 99 = .ok (.aload_n 0, 1) := by decide +kernel
theorem dX7_part_100 : decode cX7_part 100 = .ok (.getfield 44, 3) := by decide +kernel
theorem dX7_part_103 : decode cX7_part 103 = .ok (.aload_n 0, 1) := by decide +kernel
theorem dX7_part_104 : decode cX7_part 104 = .ok (.getfield 102, 3) := by decide +kernel
theorem dX7_part_107 : decode cX7_part 107 = .ok (.sipush 9000, 3) := by decide +kernel
theorem dX7_part_110 : decode cX7_part 110 = .ok (.iastore, 1) := by decide +kernel
theorem dX7_part_111 : decode cX7_part 111 = .ok (.aload_n 0, 1) := by decide +kernel
theorem dX7_part_112 : decode cX7_part 112 = .ok (.getfield 47, 3) := by decide +kernel
theorem dX7_part_115 : decode cX7_part 115 = .ok (.aload_n 0, 1) := by decide +kernel
theorem dX7_part_116 : decode cX7_part 116 = .ok (.getfield 102, 3) := by decide +kernel
theorem dX7_part_119 : decode cX7_part 119 = .ok (.sipush 300, 3) := by decide +kernel
theorem dX7_part_122 : decode cX7_part 122 = .ok (.iastore, 1) := by decide +kernel
theorem dX7_part_123 : decode cX7_part 123 = .ok (.aload_n 0, 1) := by decide +kernel
theorem dX7_part_124 : decode cX7_part 124 = .ok (.dup, 1) := by decide +kernel
theorem dX7_part_125 : decode cX7_part 125 = .ok (.getfield 102, 3) := by decide +kernel
theorem dX7_part_128 : decode cX7_part 128 = .ok (.iconst 1, 1) := by decide +kernel
theorem dX7_part_129 : decode cX7_part 129 = .ok (.iadd, 1) := by decide +kernel
theorem dX7_part_130 : decode cX7_part 130 = .ok (.putfield 102, 3) := by decide +kernel
theorem dX7_part_133 : decode cX7_part 133 = .ok (.aload_n 0, 1) := by decide +kernel
theorem dX7_part_134 : decode cX7_part 134 = .ok (.getfield 102, 3) := by decide +kernel
theorem dX7_part_137 : decode cX7_part 137 = .ok (.iconst 1, 1) := by decide +kernel
theorem dX7_part_138 : decode cX7_part 138 = .ok (.isub, 1) := by decide +kernel
theorem dX7_part_139 : decode cX7_part 139 = .ok (.ireturn, 1) := by decide +kernel
theorem dX7_limits_0 : decode cX7_limits 0 = .ok (.aload_n 0, 1) := by decide +kernel
theorem dX7_limits_1 : decode cX7_limits 1 = .ok (.iload_n 1, 1) := by decide +kernel
theorem dX7_limits_2 : decode cX7_limits 2 = .ok (.iconst 0, 1) := by decide +kernel
theorem dX7_limits_3 : decode cX7_limits 3 = .ok (.iconst 4, 1) := by decide +kernel
theorem dX7_limits_4 : decode cX7_limits 4 = .ok (.invokestatic 105, 3) := by decide +kernel
theorem dX7_limits_7 : decode cX7_limits 7 = .ok (.ifCond .eq 38, 3) := by decide +kernel
theorem dX7_limits_10 : decode cX7_limits 10 = .ok (.iload_n 2, 1) := by decide +kernel
theorem dX7_limits_11 : decode cX7_limits 11 = .ok (.iconst 0, 1) := by decide +kernel
theorem dX7_limits_12 : decode cX7_limits 12 = .ok (.ldc 113, 2) := by decide +kernel
theorem dX7_limits_14 : decode cX7_limits 14 = .ok (.invokestatic 105, 3) := by decide +kernel
theorem dX7_limits_17 : decode cX7_limits 17 = .ok (.ifCond .eq 28, 3) := by decide +kernel
theorem dX7_limits_20 : decode cX7_limits 20 = .ok (.iload_n 3, 1) := by decide +kernel
theorem dX7_limits_21 : decode cX7_limits 21 = .ok (.iconst 0, 1) := by decide +kernel
theorem dX7_limits_22 : decode cX7_limits 22 = .ok (.ldc 113, 2) := by decide +kernel
theorem dX7_limits_24 : decode cX7_limits 24 = .ok (.invokestatic 105, 3) := by decide +kernel
theorem dX7_limits_27 : decode cX7_limits 27 = .ok (.ifCond .eq 18, 3) := by decide +kernel
theorem dX7_limits_30 : decode cX7_limits 30 = .ok (.iload 4, 2) := by decide +kernel
theorem dX7_limits_32 : decode cX7_limits 32 = .ok (.iconst 0, 1) := by decide +kernel
theorem dX7_limits_33 : decode cX7_limits 33 = .ok (.ldc 113, 2) := by decide +kernel
theorem dX7_limits_35 : decode cX7_limits 35 = .ok (.invokestatic 105, 3) := by decide +kernel
theorem dX7_limits_38 : decode cX7_limits 38 = .ok (.ifCond .eq 7, 3) := by decide +kernel
theorem dX7_limits_41 : decode cX7_limits 41 = .ok (.iconst 0, 1) := by decide +kernel
theorem dX7_limits_42 : decode cX7_limits 42 = .ok (.goto 4, 3) := by decide +kernel
theorem dX7_limits_45 : decode cX7_limits 45 = .ok (.iconst 1, 1) := by decide +kernel
theorem dX7_limits_46 : decode cX7_limits 46 = .ok (.putfield 98, 3) := by decide +kernel
theorem dX7_limits_49 : decode cX7_limits 49 = .ok (.aload_n 0, 1) := by decide +kernel
theorem dX7_limits_50 : decode cX7_limits 50 = .ok (.getfield 98, 3) := by decide +kernel
theorem dX7_limits_53 : decode cX7_limits 53 = .ok (.ifCond .le 5, 3) := by decide +kernel
theorem dX7_limits_56 : decode cX7_limits 56 = .ok (.iconst 0, 1) := by decide +kernel
theorem dX7_limits_57 : decode cX7_limits 57 = .ok (.ireturn, 1) := by decide +kernel
theorem dX7_limits_58 : decode cX7_limits 58 = .ok (.aload_n 0, 1) := by decide +kernel
theorem dX7_limits_59 : decode cX7_limits 59 = .ok (.getfield 65, 3) := by decide +kernel
theorem dX7_limits_62 : decode cX7_limits 62 = .ok (.iload_n 1, 1) := by decide +kernel
theorem dX7_limits_63 : decode cX7_limits 63 = .ok (.iaload, 1) := by decide +kernel
theorem dX7_limits_64 : decode cX7_limits 64 = .ok (.istore 5, 2) := by decide +kernel
theorem dX7_limits_66 : decode cX7_limits 66 = .ok (.aload_n 0, 1) := by decide +kernel
theorem dX7_limits_67 : decode cX7_limits 67 = .ok (.getfield 65, 3) := by decide +kernel
theorem dX7_limits_70 : decode cX7_limits 70 = .ok (.iload_n 1, 1) := by decide +kernel
theorem dX7_limits_71 : decode cX7_limits 71 = .ok (.iload_n 2, 1) := by decide +kernel
theorem dX7_limits_72 : decode cX7_limits 72 = .ok (.iastore, 1) := by decide +kernel
theorem dX7_limits_73 : decode cX7_limits 73 = .ok (.aload_n 0, 1) := by decide +kernel
theorem dX7_limits_74 : decode cX7_limits 74 = .ok (.getfield 68, 3) := by decide +kernel
theorem dX7_limits_77 : decode cX7_limits 77 = .ok (.iload_n 1, 1) := by decide +kernel
theorem dX7_limits_78 : decode cX7_limits 78 = .ok (.iload_n 3, 1) := by decide +kernel
theorem dX7_limits_79 : decode cX7_limits 79 = .ok (.iastore, 1) := by decide +kernel
theorem dX7_limits_80 : decode cX7_limits 80 = .ok (.aload_n 0, 1) := by decide +kernel
theorem dX7_limits_81 : decode cX7_limits 81 = .ok (.getfield 71, 3) := by decide +kernel
theorem dX7_limits_84 : decode cX7_limits 84 = .ok (.iload_n 1, 1) := by decide +kernel
theorem dX7_limits_85 : decode cX7_limits 85 = .ok (.iload 4, 2) := by decide +kernel
theorem dX7_limits_87 : decode cX7_limits 87 = .ok (.iastore, 1) := by decide +kernel
theorem dX7_limits_88 : decode cX7_limits 88 = .ok (.iload 5, 2) := by decide +kernel
theorem dX7_limits_90 : decode cX7_limits 90 = .ok (.ireturn, 1) := by decide +kernel
theorem dX7_headOf_0 : decode cX7_headOf 0 = .ok (.iload_n 1, 1) := by decide +kernel
theorem dX7_headOf_1 : decode cX7_headOf 1 = .ok (.istore_n 2, 1) := by decide +kernel
theorem dX7_headOf_2 : decode cX7_headOf 2 = .ok (.aload_n 0, 1) := by decide +kernel
theorem dX7_headOf_3 : decode cX7_headOf 3 = .ok (.getfield 19, 3) := by decide +kernel
theorem dX7_headOf_6 : decode cX7_headOf 6 = .ok (.iload_n 2, 1) := by decide +kernel
theorem dX7_headOf_7 : decode cX7_headOf 7 = .ok (.iaload, 1) := by decide +kernel
theorem dX7_headOf_8 : decode cX7_headOf 8 = .ok (.ifCond .lt 13, 3) := by decide +kernel
theorem dX7_headOf_11 : decode cX7_headOf 11 = .ok (.aload_n 0, 1) := by decide +kernel
theorem dX7_headOf_12 : decode cX7_headOf 12 = .ok (.getfield 19, 3) := by decide +kernel
theorem dX7_headOf_15 : decode cX7_headOf 15 = .ok (.iload_n 2, 1) := by decide +kernel
theorem dX7_headOf_16 : decode cX7_headOf 16 = .ok (.iaload, 1) := by decide +kernel
theorem dX7_headOf_17 : decode cX7_headOf 17 = .ok (.istore_n 2, 1) := by decide +kernel
theorem dX7_headOf_18 : decode cX7_headOf 18 = .ok (.goto (-16), 3) := by decide +kernel
theorem dX7_headOf_21 : decode cX7_headOf 21 = .ok (.iload_n 2, 1) := by decide +kernel
theorem dX7_headOf_22 : decode cX7_headOf 22 = .ok (.ireturn, 1) := by decide +kernel
theorem dX7_isBound_0 : decode cX7_isBound 0 = .ok (.aload_n 0, 1) := by decide +kernel
theorem dX7_isBound_1 : decode cX7_isBound 1 = .ok (.getfield 41, 3) := by decide +kernel
theorem dX7_isBound_4 : decode cX7_isBound 4 = .ok (.aload_n 0, 1) := by decide +kernel
theorem dX7_isBound_5 : decode cX7_isBound 5 = .ok (.iload_n 1, 1) := by decide +kernel
theorem dX7_isBound_6 : decode cX7_isBound 6 = .ok (.invokevirtual 114, 3) := by decide +kernel
theorem dX7_isBound_9 : decode cX7_isBound 9 = .ok (.baload, 1) := by decide +kernel
theorem dX7_isBound_10 : decode cX7_isBound 10 = .ok (.ireturn, 1) := by decide +kernel
theorem dX7_isIn_0 : decode cX7_isIn 0 = .ok (.aload_n 0, 1) := by decide +kernel
theorem dX7_isIn_1 : decode cX7_isIn 1 = .ok (.getfield 19, 3) := by decide +kernel
theorem dX7_isIn_4 : decode cX7_isIn 4 = .ok (.iload_n 1, 1) := by decide +kernel
theorem dX7_isIn_5 : decode cX7_isIn 5 = .ok (.iaload, 1) := by decide +kernel
theorem dX7_isIn_6 : decode cX7_isIn 6 = .ok (.bipush (-2), 2) := by decide +kernel
theorem dX7_isIn_8 : decode cX7_isIn 8 = .ok (.if_icmp .eq 12, 3) := by decide +kernel
theorem dX7_isIn_11 : decode cX7_isIn 11 = .ok (.aload_n 0, 1) := by decide +kernel
theorem dX7_isIn_12 : decode cX7_isIn 12 = .ok (.iload_n 1, 1) := by decide +kernel
theorem dX7_isIn_13 : decode cX7_isIn 13 = .ok (.invokevirtual 114, 3) := by decide +kernel
theorem dX7_isIn_16 : decode cX7_isIn 16 = .ok (.iload_n 2, 1) := by decide +kernel
theorem dX7_isIn_17 : decode cX7_isIn 17 = .ok (.if_icmp .eq 8, 3) := by decide +kernel
theorem dX7_isIn_20 : decode cX7_isIn 20 = .ok (.iload_n 1, 1) := by decide +kernel
theorem dX7_isIn_21 : decode cX7_isIn 21 = .ok (.iload_n 2, 1) := by decide +kernel
theorem dX7_isIn_22 : decode cX7_isIn 22 = .ok (.if_icmp .ne 7, 3) := by decide +kernel
theorem dX7_isIn_25 : decode cX7_isIn 25 = .ok (.iconst 1, 1) := by decide +kernel
theorem dX7_isIn_26 : decode cX7_isIn 26 = .ok (.goto 4, 3) := by decide +kernel
theorem dX7_isIn_29 : decode cX7_isIn 29 = .ok (.iconst 0, 1) := by decide +kernel
theorem dX7_isIn_30 : decode cX7_isIn 30 = .ok (.ireturn, 1) := by decide +kernel
theorem dX7_places_0 : decode cX7_places 0 = .ok (.iload_n 0, 1) := by decide +kernel
theorem dX7_places_1 : decode cX7_places 1 = .ok (.iconst 2, 1) := by decide +kernel
theorem dX7_places_2 : decode cX7_places 2 = .ok (.if_icmp .ne 23, 3) := by decide +kernel
theorem dX7_places_5 : decode cX7_places 5 = .ok (.iload_n 1, 1) := by decide +kernel
theorem dX7_places_6 : decode cX7_places 6 = .ok (.iconst 3, 1) := by decide +kernel
theorem dX7_places_7 : decode cX7_places 7 = .ok (.if_icmp .ne 7, 3) := by decide +kernel
theorem dX7_places_10 : decode cX7_places 10 = .ok (.iconst 2, 1) := by decide +kernel
theorem dX7_places_11 : decode cX7_places 11 = .ok (.goto 13, 3) := by decide +kernel
theorem dX7_places_14 : decode cX7_places 14 = .ok (.iload_n 1, 1) := by decide +kernel
theorem dX7_places_15 : decode cX7_places 15 = .ok (.iconst 4, 1) := by decide +kernel
theorem dX7_places_16 : decode cX7_places 16 = .ok (.if_icmp .ne 7, 3) := by decide +kernel
theorem dX7_places_19 : decode cX7_places 19 = .ok (.iconst 1, 1) := by decide +kernel
theorem dX7_places_20 : decode cX7_places 20 = .ok (.goto 4, 3) := by decide +kernel
theorem dX7_places_23 : decode cX7_places 23 = .ok (.iconst 0, 1) := by decide +kernel
theorem dX7_places_24 : decode cX7_places 24 = .ok (.ireturn, 1) := by decide +kernel
theorem dX7_places_25 : decode cX7_places 25 = .ok (.iload_n 0, 1) := by decide +kernel
theorem dX7_places_26 : decode cX7_places 26 = .ok (.ifCond .eq 8, 3) := by decide +kernel
theorem dX7_places_29 : decode cX7_places 29 = .ok (.iload_n 0, 1) := by decide +kernel
theorem dX7_places_30 : decode cX7_places 30 = .ok (.iconst 1, 1) := by decide +kernel
theorem dX7_places_31 : decode cX7_places 31 = .ok (.if_icmp .ne 14, 3) := by decide +kernel
theorem dX7_places_34 : decode cX7_places 34 = .ok (.iload_n 1, 1) := by decide +kernel
theorem dX7_places_35 : decode cX7_places 35 = .ok (.iload_n 0, 1) := by decide +kernel
theorem dX7_places_36 : decode cX7_places 36 = .ok (.iconst 1, 1) := by decide +kernel
theorem dX7_places_37 : decode cX7_places 37 = .ok (.iadd, 1) := by decide +kernel
theorem dX7_places_38 : decode cX7_places 38 = .ok (.if_icmp .ne 7, 3) := by decide +kernel
theorem dX7_places_41 : decode cX7_places 41 = .ok (.iconst 2, 1) := by decide +kernel
theorem dX7_places_42 : decode cX7_places 42 = .ok (.goto 4, 3) := by decide +kernel
theorem dX7_places_45 : decode cX7_places 45 = .ok (.iconst 0, 1) := by decide +kernel
theorem dX7_places_46 : decode cX7_places 46 = .ok (.ireturn, 1) := by decide +kernel
theorem dX7_inside_0 : decode cX7_inside 0 = .ok (.iconst 0, 1) := by decide +kernel
theorem dX7_inside_1 : decode cX7_inside 1 = .ok (.istore_n 3, 1) := by decide +kernel
theorem dX7_inside_2 : decode cX7_inside 2 = .ok (.iconst 0, 1) := by decide +kernel
theorem dX7_inside_3 : decode cX7_inside 3 = .ok (.istore 4, 2) := by decide +kernel
theorem dX7_inside_5 : decode cX7_inside 5 = .ok (.iload 4, 2) := by decide +kernel
theorem dX7_inside_7 : decode cX7_inside 7 = .ok (.aload_n 0, 1) := by decide +kernel
theorem dX7_inside_8 : decode cX7_inside 8 = .ok (.getfield 102, 3) := by decide +kernel
theorem dX7_inside_11 : decode cX7_inside 11 = .ok (.if_icmp .ge 44, 3) := by decide +kernel
theorem dX7_inside_14 : decode cX7_inside 14 = .ok (.iload_n 3, 1) := by decide +kernel
theorem dX7_inside_15 : decode cX7_inside 15 = .ok (.aload_n 0, 1) := by decide +kernel
theorem dX7_inside_16 : decode cX7_inside 16 = .ok (.getfield 19, 3) := by decide +kernel
theorem dX7_inside_19 : decode cX7_inside 19 = .ok (.iload 4, 2) := by decide +kernel
theorem dX7_inside_21 : decode cX7_inside 21 = .ok (.iaload, 1) := by decide +kernel
theorem dX7_inside_22 : decode cX7_inside 22 = .ok (.iload_n 1, 1) := by decide +kernel
theorem dX7_inside_23 : decode cX7_inside 23 = .ok (.if_icmp .ne 23, 3) := by decide +kernel
theorem dX7_inside_26 : decode cX7_inside 26 = .ok (.iload_n 2, 1) := by decide +kernel
theorem dX7_inside_27 : decode cX7_inside 27 = .ok (.iconst (-1), 1) := by decide +kernel
theorem dX7_inside_28 : decode cX7_inside 28 = .ok (.if_icmp .eq 14, 3) := by decide +kernel
theorem dX7_inside_31 : decode cX7_inside 31 = .ok (.aload_n 0, 1) := by decide +kernel
theorem dX7_inside_32 : decode cX7_inside 32 = .ok (.getfield 7, 3) := by decide +kernel
theorem dX7_inside_35 : decode cX7_inside 35 = .ok (.iload 4, 2) := by decide +kernel
theorem dX7_inside_37 : decode cX7_inside 37 = .ok (.iaload, 1) := by decide +kernel
theorem dX7_inside_38 : decode cX7_inside 38 = .ok (.iload_n 2, 1) := by decide +kernel
theorem dX7_inside_39 : decode cX7_inside 39 = .ok (.if_icmp .ne 7, 3) := by decide +kernel
theorem dX7_inside_42 : decode cX7_inside 42 = .ok (.iconst 1, 1) := by decide +kernel
theorem dX7_inside_43 : decode cX7_inside 43 = .ok (.goto 4, 3) := by decide +kernel
theorem dX7_inside_46 : decode cX7_inside 46 = .ok (.iconst 0, 1) := by decide +kernel
theorem dX7_inside_47 : decode cX7_inside 47 = .ok (.iadd, 1) := by decide +kernel
theorem dX7_inside_48 : decode cX7_inside 48 = .ok (.istore_n 3, 1) := by decide +kernel
theorem dX7_inside_49 : decode cX7_inside 49 = .ok (.iinc 4 1, 3) := by decide +kernel
theorem dX7_inside_52 : decode cX7_inside 52 = .ok (.goto (-47), 3) := by decide +kernel
theorem dX7_inside_55 : decode cX7_inside 55 = .ok (.iload_n 3, 1) := by decide +kernel
theorem dX7_inside_56 : decode cX7_inside 56 = .ok (.ireturn, 1) := by decide +kernel
theorem dX7_moves_0 : decode cX7_moves 0 = .ok (.aload_n 0, 1) := by decide +kernel
theorem dX7_moves_1 : decode cX7_moves 1 = .ok (.getfield 19, 3) := by decide +kernel
theorem dX7_moves_4 : decode cX7_moves 4 = .ok (.iload_n 1, 1) := by decide +kernel
theorem dX7_moves_5 : decode cX7_moves 5 = .ok (.iload_n 2, 1) := by decide +kernel
theorem dX7_moves_6 : decode cX7_moves 6 = .ok (.iastore, 1) := by decide +kernel
theorem dX7_moves_7 : decode cX7_moves 7 = .ok (.aload_n 0, 1) := by decide +kernel
theorem dX7_moves_8 : decode cX7_moves 8 = .ok (.getfield 74, 3) := by decide +kernel
theorem dX7_moves_11 : decode cX7_moves 11 = .ok (.aload_n 0, 1) := by decide +kernel
theorem dX7_moves_12 : decode cX7_moves 12 = .ok (.getfield 118, 3) := by decide +kernel
theorem dX7_moves_15 : decode cX7_moves 15 = .ok (.iload_n 1, 1) := by decide +kernel
theorem dX7_moves_16 : decode cX7_moves 16 = .ok (.iastore, 1) := by decide +kernel
theorem dX7_moves_17 : decode cX7_moves 17 = .ok (.aload_n 0, 1) := by decide +kernel
theorem dX7_moves_18 : decode cX7_moves 18 = .ok (.getfield 77, 3) := by decide +kernel
theorem dX7_moves_21 : decode cX7_moves 21 = .ok (.aload_n 0, 1) := by decide +kernel
theorem dX7_moves_22 : decode cX7_moves 22 = .ok (.getfield 118, 3) := by decide +kernel
theorem dX7_moves_25 : decode cX7_moves 25 = .ok (.iload_n 2, 1) := by decide +kernel
theorem dX7_moves_26 : decode cX7_moves 26 = .ok (.iastore, 1) := by decide +kernel
theorem dX7_moves_27 : decode cX7_moves 27 = .ok (.aload_n 0, 1) := by decide +kernel
theorem dX7_moves_28 : decode cX7_moves 28 = .ok (.dup, 1) := by decide +kernel
theorem dX7_moves_29 : decode cX7_moves 29 = .ok (.getfield 118, 3) := by decide +kernel
theorem dX7_moves_32 : decode cX7_moves 32 = .ok (.iconst 1, 1) := by decide +kernel
theorem dX7_moves_33 : decode cX7_moves 33 = .ok (.iadd, 1) := by decide +kernel
theorem dX7_moves_34 : decode cX7_moves 34 = .ok (.putfield 118, 3) := by decide +kernel
theorem dX7_moves_37 : decode cX7_moves 37 = .ok (.return_, 1) := by decide +kernel
theorem dX7_ends_0 : decode cX7_ends 0 = .ok (.aload_n 0, 1) := by decide +kernel
theorem dX7_ends_1 : decode cX7_ends 1 = .ok (.getfield 38, 3) := by decide +kernel
theorem dX7_ends_4 : decode cX7_ends 4 = .ok (.aload_n 0, 1) := by decide +kernel
theorem dX7_ends_5 : decode cX7_ends 5 = .ok (.iload_n 1, 1) := by decide +kernel
theorem dX7_ends_6 : decode cX7_ends 6 = .ok (.invokevirtual 114, 3) := by decide +kernel
theorem dX7_ends_9 : decode cX7_ends 9 = .ok (.iconst 0, 1) := by decide +kernel
theorem dX7_ends_10 : decode cX7_ends 10 = .ok (.bastore, 1) := by decide +kernel
theorem dX7_ends_11 : decode cX7_ends 11 = .ok (.return_, 1) := by decide +kernel
theorem dX7_fit_0 : decode cX7_fit 0 = .ok (.aload_n 0, 1) := by decide +kernel
theorem dX7_fit_1 : decode cX7_fit 1 = .ok (.aload_n 0, 1) := by decide +kernel
theorem dX7_fit_2 : decode cX7_fit 2 = .ok (.iload_n 1, 1) := by decide +kernel
theorem dX7_fit_3 : decode cX7_fit 3 = .ok (.invokevirtual 109, 3) := by decide +kernel
theorem dX7_fit_6 : decode cX7_fit 6 = .ok (.ifCond .eq 11, 3) := by decide +kernel
theorem dX7_fit_9 : decode cX7_fit 9 = .ok (.aload_n 0, 1) := by decide +kernel
theorem dX7_fit_10 : decode cX7_fit 10 = .ok (.iload_n 2, 1) := by decide +kernel
theorem dX7_fit_11 : decode cX7_fit 11 = .ok (.invokevirtual 109, 3) := by decide +kernel
theorem dX7_fit_14 : decode cX7_fit 14 = .ok (.ifCond .ne 7, 3) := by decide +kernel
theorem dX7_fit_17 : decode cX7_fit 17 = .ok (.iconst 1, 1) := by decide +kernel
theorem dX7_fit_18 : decode cX7_fit 18 = .ok (.goto 26, 3) := by decide +kernel
theorem dX7_fit_21 : decode cX7_fit 21 = .ok (.aload_n 0, 1) := by decide +kernel
theorem dX7_fit_22 : decode cX7_fit 22 = .ok (.getfield 7, 3) := by decide +kernel
theorem dX7_fit_25 : decode cX7_fit 25 = .ok (.iload_n 2, 1) := by decide +kernel
theorem dX7_fit_26 : decode cX7_fit 26 = .ok (.iaload, 1) := by decide +kernel
theorem dX7_fit_27 : decode cX7_fit 27 = .ok (.aload_n 0, 1) := by decide +kernel
theorem dX7_fit_28 : decode cX7_fit 28 = .ok (.getfield 7, 3) := by decide +kernel
theorem dX7_fit_31 : decode cX7_fit 31 = .ok (.iload_n 1, 1) := by decide +kernel
theorem dX7_fit_32 : decode cX7_fit 32 = .ok (.iaload, 1) := by decide +kernel
theorem dX7_fit_33 : decode cX7_fit 33 = .ok (.invokestatic 121, 3) := by decide +kernel
theorem dX7_fit_36 : decode cX7_fit 36 = .ok (.ifCond .ne 7, 3) := by decide +kernel
theorem dX7_fit_39 : decode cX7_fit 39 = .ok (.iconst 2, 1) := by decide +kernel
theorem dX7_fit_40 : decode cX7_fit 40 = .ok (.goto 4, 3) := by decide +kernel
theorem dX7_fit_43 : decode cX7_fit 43 = .ok (.iconst 0, 1) := by decide +kernel
theorem dX7_fit_44 : decode cX7_fit 44 = .ok (.putfield 98, 3) := by decide +kernel
theorem dX7_fit_47 : decode cX7_fit 47 = .ok (.aload_n 0, 1) := by decide +kernel
theorem dX7_fit_48 : decode cX7_fit 48 = .ok (.getfield 98, 3) := by decide +kernel
theorem dX7_fit_51 : decode cX7_fit 51 = .ok (.ifCond .le 5, 3) := by decide +kernel
theorem dX7_fit_54 : decode cX7_fit 54 = .ok (.iconst 0, 1) := by decide +kernel
theorem dX7_fit_55 : decode cX7_fit 55 = .ok (.ireturn, 1) := by decide +kernel
theorem dX7_fit_56 : decode cX7_fit 56 = .ok (.aload_n 0, 1) := by decide +kernel
theorem dX7_fit_57 : decode cX7_fit 57 = .ok (.getfield 19, 3) := by decide +kernel
theorem dX7_fit_60 : decode cX7_fit 60 = .ok (.iload_n 1, 1) := by decide +kernel
theorem dX7_fit_61 : decode cX7_fit 61 = .ok (.iaload, 1) := by decide +kernel
theorem dX7_fit_62 : decode cX7_fit 62 = .ok (.iconst (-1), 1) := by decide +kernel
theorem dX7_fit_63 : decode cX7_fit 63 = .ok (.if_icmp .ne 35, 3) := by decide +kernel
theorem dX7_fit_66 : decode cX7_fit 66 = .ok (.aload_n 0, 1) := by decide +kernel
theorem dX7_fit_67 : decode cX7_fit 67 = .ok (.getfield 31, 3) := by decide +kernel
theorem dX7_fit_70 : decode cX7_fit 70 = .ok (.iload_n 1, 1) := by decide +kernel
theorem dX7_fit_71 : decode cX7_fit 71 = .ok (.baload, 1) := by decide +kernel
theorem dX7_fit_72 : decode cX7_fit 72 = .ok (.ifCond .ne 26, 3) := by decide +kernel
theorem dX7_fit_75 : decode cX7_fit 75 = .ok (.aload_n 0, 1) := by decide +kernel
theorem dX7_fit_76 : decode cX7_fit 76 = .ok (.getfield 19, 3) := by decide +kernel
theorem dX7_fit_79 : decode cX7_fit 79 = .ok (.iload_n 2, 1) := by decide +kernel
theorem dX7_fit_80 : decode cX7_fit 80 = .ok (.iaload, 1) := by decide +kernel
theorem dX7_fit_81 : decode cX7_fit 81 = .ok (.bipush (-2), 2) := by decide +kernel
theorem dX7_fit_83 : decode cX7_fit 83 = .ok (.if_icmp .eq 15, 3) := by decide +kernel
theorem dX7_fit_86 : decode cX7_fit 86 = .ok (.aload_n 0, 1) := by decide +kernel
theorem dX7_fit_87 : decode cX7_fit 87 = .ok (.iload_n 2, 1) := by decide +kernel
theorem dX7_fit_88 : decode cX7_fit 88 = .ok (.invokevirtual 125, 3) := by decide +kernel
theorem dX7_fit_91 : decode cX7_fit 91 = .ok (.ifCond .ne 7, 3) := by decide +kernel
theorem dX7_fit_94 : decode cX7_fit 94 = .ok (.iconst 1, 1) := by decide +kernel
theorem dX7_fit_95 : decode cX7_fit 95 = .ok (.goto 4, 3) := by decide +kernel
theorem dX7_fit_98 : decode cX7_fit 98 = .ok (.iconst 0, 1) := by decide +kernel
theorem dX7_fit_99 : decode cX7_fit 99 = .ok (.istore_n 3, 1) := by decide +kernel
theorem dX7_fit_100 : decode cX7_fit 100 = .ok (.aload_n 0, 1) := by decide +kernel
theorem dX7_fit_101 : decode cX7_fit 101 = .ok (.getfield 16, 3) := by decide +kernel
theorem dX7_fit_104 : decode cX7_fit 104 = .ok (.iload_n 1, 1) := by decide +kernel
theorem dX7_fit_105 : decode cX7_fit 105 = .ok (.iaload, 1) := by decide +kernel
theorem dX7_fit_106 : decode cX7_fit 106 = .ok (.aload_n 0, 1) := by decide +kernel
theorem dX7_fit_107 : decode cX7_fit 107 = .ok (.getfield 16, 3) := by decide +kernel
theorem dX7_fit_110 : decode cX7_fit 110 = .ok (.iload_n 2, 1) := by decide +kernel
theorem dX7_fit_111 : decode cX7_fit 111 = .ok (.iaload, 1) := by decide +kernel
theorem dX7_fit_112 : decode cX7_fit 112 = .ok (.isub, 1) := by decide +kernel
theorem dX7_fit_113 : decode cX7_fit 113 = .ok (.istore 4, 2) := by decide +kernel
theorem dX7_fit_115 : decode cX7_fit 115 = .ok (.iload_n 3, 1) := by decide +kernel
theorem dX7_fit_116 : decode cX7_fit 116 = .ok (.ifCond .eq 48, 3) := by decide +kernel
theorem dX7_fit_119 : decode cX7_fit 119 = .ok (.aload_n 0, 1) := by decide +kernel
theorem dX7_fit_120 : decode cX7_fit 120 = .ok (.iload_n 2, 1) := by decide +kernel
theorem dX7_fit_121 : decode cX7_fit 121 = .ok (.aload_n 0, 1) := by decide +kernel
theorem dX7_fit_122 : decode cX7_fit 122 = .ok (.getfield 7, 3) := by decide +kernel
theorem dX7_fit_125 : decode cX7_fit 125 = .ok (.iload_n 1, 1) := by decide +kernel
theorem dX7_fit_126 : decode cX7_fit 126 = .ok (.iaload, 1) := by decide +kernel
theorem dX7_fit_127 : decode cX7_fit 127 = .ok (.invokevirtual 128, 3) := by decide +kernel
theorem dX7_fit_130 : decode cX7_fit 130 = .ok (.aload_n 0, 1) := by decide +kernel
theorem dX7_fit_131 : decode cX7_fit 131 = .ok (.getfield 7, 3) := by decide +kernel
theorem dX7_fit_134 : decode cX7_fit 134 = .ok (.iload_n 2, 1) := by decide +kernel
theorem dX7_fit_135 : decode cX7_fit 135 = .ok (.iaload, 1) := by decide +kernel
theorem dX7_fit_136 : decode cX7_fit 136 = .ok (.aload_n 0, 1) := by decide +kernel
theorem dX7_fit_137 : decode cX7_fit 137 = .ok (.getfield 7, 3) := by decide +kernel
theorem dX7_fit_140 : decode cX7_fit 140 = .ok (.iload_n 1, 1) := by decide +kernel
theorem dX7_fit_141 : decode cX7_fit 141 = .ok (.iaload, 1) := by decide +kernel
theorem dX7_fit_142 : decode cX7_fit 142 = .ok (.invokestatic 121, 3) := by decide +kernel
theorem dX7_fit_145 : decode cX7_fit 145 = .ok (.if_icmp .ge 19, 3) := by decide +kernel
theorem dX7_fit_148 : decode cX7_fit 148 = .ok (.iload 4, 2) := by decide +kernel
theorem dX7_fit_150 : decode cX7_fit 150 = .ok (.iconst 1, 1) := by decide +kernel
theorem dX7_fit_151 : decode cX7_fit 151 = .ok (.if_icmp .gt 13, 3) := by decide +kernel
theorem dX7_fit_154 : decode cX7_fit 154 = .ok (.iload 4, 2) := by decide +kernel
theorem dX7_fit_156 : decode cX7_fit 156 = .ok (.iconst (-1), 1) := by decide +kernel
theorem dX7_fit_157 : decode cX7_fit 157 = .ok (.if_icmp .lt 7, 3) := by decide +kernel
theorem dX7_fit_160 : decode cX7_fit 160 = .ok (.iconst 1, 1) := by decide +kernel
theorem dX7_fit_161 : decode cX7_fit 161 = .ok (.goto 4, 3) := by decide +kernel
theorem dX7_fit_164 : decode cX7_fit 164 = .ok (.iconst 0, 1) := by decide +kernel
theorem dX7_fit_165 : decode cX7_fit 165 = .ok (.istore_n 3, 1) := by decide +kernel
theorem dX7_fit_166 : decode cX7_fit 166 = .ok (.aload_n 0, 1) := by decide +kernel
theorem dX7_fit_167 : decode cX7_fit 167 = .ok (.iload_n 3, 1) := by decide +kernel
theorem dX7_fit_168 : decode cX7_fit 168 = .ok (.ifCond .eq 7, 3) := by decide +kernel
theorem dX7_fit_171 : decode cX7_fit 171 = .ok (.iconst 0, 1) := by decide +kernel
theorem dX7_fit_172 : decode cX7_fit 172 = .ok (.goto 4, 3) := by decide +kernel
theorem dX7_fit_175 : decode cX7_fit 175 = .ok (.iconst 3, 1) := by decide +kernel
theorem dX7_fit_176 : decode cX7_fit 176 = .ok (.putfield 98, 3) := by decide +kernel
theorem dX7_fit_179 : decode cX7_fit 179 = .ok (.aload_n 0, 1) := by decide +kernel
theorem dX7_fit_180 : decode cX7_fit 180 = .ok (.getfield 98, 3) := by decide +kernel
theorem dX7_fit_183 : decode cX7_fit 183 = .ok (.ifCond .le 5, 3) := by decide +kernel
theorem dX7_fit_186 : decode cX7_fit 186 = .ok (.iconst 0, 1) := by decide +kernel
theorem dX7_fit_187 : decode cX7_fit 187 = .ok (.ireturn, 1) := by decide +kernel
theorem dX7_fit_188 : decode cX7_fit 188 = .ok (.aload_n 0, 1) := by decide +kernel
theorem dX7_fit_189 : decode cX7_fit 189 = .ok (.iload_n 1, 1) := by decide +kernel
theorem dX7_fit_190 : decode cX7_fit 190 = .ok (.iload_n 2, 1) := by decide +kernel
theorem dX7_fit_191 : decode cX7_fit 191 = .ok (.invokevirtual 131, 3) := by decide +kernel
theorem dX7_fit_194 : decode cX7_fit 194 = .ok (.aload_n 0, 1) := by decide +kernel
theorem dX7_fit_195 : decode cX7_fit 195 = .ok (.iload_n 1, 1) := by decide +kernel
theorem dX7_fit_196 : decode cX7_fit 196 = .ok (.invokevirtual 135, 3) := by decide +kernel
theorem dX7_fit_199 : decode cX7_fit 199 = .ok (.aload_n 0, 1) := by decide +kernel
theorem dX7_fit_200 : decode cX7_fit 200 = .ok (.iload_n 2, 1) := by decide +kernel
theorem dX7_fit_201 : decode cX7_fit 201 = .ok (.iconst (-1), 1) := by decide +kernel
theorem dX7_fit_202 : decode cX7_fit 202 = .ok (.invokevirtual 128, 3) := by decide +kernel
theorem dX7_fit_205 : decode cX7_fit 205 = .ok (.ireturn, 1) := by decide +kernel
theorem dX7_take_0 : decode cX7_take 0 = .ok (.aload_n 0, 1) := by decide +kernel
theorem dX7_take_1 : decode cX7_take 1 = .ok (.aload_n 0, 1) := by decide +kernel
theorem dX7_take_2 : decode cX7_take 2 = .ok (.iload_n 1, 1) := by decide +kernel
theorem dX7_take_3 : decode cX7_take 3 = .ok (.invokevirtual 109, 3) := by decide +kernel
theorem dX7_take_6 : decode cX7_take 6 = .ok (.ifCond .ne 7, 3) := by decide +kernel
theorem dX7_take_9 : decode cX7_take 9 = .ok (.iconst 1, 1) := by decide +kernel
theorem dX7_take_10 : decode cX7_take 10 = .ok (.goto 25, 3) := by decide +kernel
theorem dX7_take_13 : decode cX7_take 13 = .ok (.aload_n 0, 1) := by decide +kernel
theorem dX7_take_14 : decode cX7_take 14 = .ok (.getfield 19, 3) := by decide +kernel
theorem dX7_take_17 : decode cX7_take 17 = .ok (.iload_n 1, 1) := by decide +kernel
theorem dX7_take_18 : decode cX7_take 18 = .ok (.iaload, 1) := by decide +kernel
theorem dX7_take_19 : decode cX7_take 19 = .ok (.ifCond .lt 11, 3) := by decide +kernel
theorem dX7_take_22 : decode cX7_take 22 = .ok (.aload_n 0, 1) := by decide +kernel
theorem dX7_take_23 : decode cX7_take 23 = .ok (.iload_n 1, 1) := by decide +kernel
theorem dX7_take_24 : decode cX7_take 24 = .ok (.invokevirtual 125, 3) := by decide +kernel
theorem dX7_take_27 : decode cX7_take 27 = .ok (.ifCond .eq 7, 3) := by decide +kernel
theorem dX7_take_30 : decode cX7_take 30 = .ok (.iconst 2, 1) := by decide +kernel
theorem dX7_take_31 : decode cX7_take 31 = .ok (.goto 4, 3) := by decide +kernel
theorem dX7_take_34 : decode cX7_take 34 = .ok (.iconst 0, 1) := by decide +kernel
theorem dX7_take_35 : decode cX7_take 35 = .ok (.putfield 98, 3) := by decide +kernel
theorem dX7_take_38 : decode cX7_take 38 = .ok (.aload_n 0, 1) := by decide +kernel
theorem dX7_take_39 : decode cX7_take 39 = .ok (.getfield 98, 3) := by decide +kernel
theorem dX7_take_42 : decode cX7_take 42 = .ok (.ifCond .le 5, 3) := by decide +kernel
theorem dX7_take_45 : decode cX7_take 45 = .ok (.iconst 0, 1) := by decide +kernel
theorem dX7_take_46 : decode cX7_take 46 = .ok (.ireturn, 1) := by decide +kernel
theorem dX7_take_47 : decode cX7_take 47 = .ok (.aload_n 0, 1) := by decide +kernel
theorem dX7_take_48 : decode cX7_take 48 = .ok (.getfield 19, 3) := by decide +kernel
theorem dX7_take_51 : decode cX7_take 51 = .ok (.iload_n 1, 1) := by decide +kernel
theorem dX7_take_52 : decode cX7_take 52 = .ok (.iaload, 1) := by decide +kernel
theorem dX7_take_53 : decode cX7_take 53 = .ok (.istore_n 2, 1) := by decide +kernel
theorem dX7_take_54 : decode cX7_take 54 = .ok (.aload_n 0, 1) := by decide +kernel
theorem dX7_take_55 : decode cX7_take 55 = .ok (.iload_n 1, 1) := by decide +kernel
theorem dX7_take_56 : decode cX7_take 56 = .ok (.invokevirtual 135, 3) := by decide +kernel
theorem dX7_take_59 : decode cX7_take 59 = .ok (.aload_n 0, 1) := by decide +kernel
theorem dX7_take_60 : decode cX7_take 60 = .ok (.iload_n 1, 1) := by decide +kernel
theorem dX7_take_61 : decode cX7_take 61 = .ok (.iconst (-1), 1) := by decide +kernel
theorem dX7_take_62 : decode cX7_take 62 = .ok (.invokevirtual 131, 3) := by decide +kernel
theorem dX7_take_65 : decode cX7_take 65 = .ok (.iload_n 2, 1) := by decide +kernel
theorem dX7_take_66 : decode cX7_take 66 = .ok (.ireturn, 1) := by decide +kernel
theorem dX7_waits_0 : decode cX7_waits 0 = .ok (.iconst 0, 1) := by decide +kernel
theorem dX7_waits_1 : decode cX7_waits 1 = .ok (.istore_n 2, 1) := by decide +kernel
theorem dX7_waits_2 : decode cX7_waits 2 = .ok (.iconst 0, 1) := by decide +kernel
theorem dX7_waits_3 : decode cX7_waits 3 = .ok (.istore_n 3, 1) := by decide +kernel
theorem dX7_waits_4 : decode cX7_waits 4 = .ok (.iload_n 3, 1) := by decide +kernel
theorem dX7_waits_5 : decode cX7_waits 5 = .ok (.aload_n 0, 1) := by decide +kernel
theorem dX7_waits_6 : decode cX7_waits 6 = .ok (.getfield 139, 3) := by decide +kernel
theorem dX7_waits_9 : decode cX7_waits 9 = .ok (.if_icmp .ge 29, 3) := by decide +kernel
theorem dX7_waits_12 : decode cX7_waits 12 = .ok (.iload_n 2, 1) := by decide +kernel
theorem dX7_waits_13 : decode cX7_waits 13 = .ok (.ifCond .ne 13, 3) := by decide +kernel
theorem dX7_waits_16 : decode cX7_waits 16 = .ok (.aload_n 0, 1) := by decide +kernel
theorem dX7_waits_17 : decode cX7_waits 17 = .ok (.getfield 80, 3) := by decide +kernel
theorem dX7_waits_20 : decode cX7_waits 20 = .ok (.iload_n 3, 1) := by decide +kernel
theorem dX7_waits_21 : decode cX7_waits 21 = .ok (.iaload, 1) := by decide +kernel
theorem dX7_waits_22 : decode cX7_waits 22 = .ok (.iload_n 1, 1) := by decide +kernel
theorem dX7_waits_23 : decode cX7_waits 23 = .ok (.if_icmp .ne 7, 3) := by decide +kernel
theorem dX7_waits_26 : decode cX7_waits 26 = .ok (.iconst 1, 1) := by decide +kernel
theorem dX7_waits_27 : decode cX7_waits 27 = .ok (.goto 4, 3) := by decide +kernel
theorem dX7_waits_30 : decode cX7_waits 30 = .ok (.iconst 0, 1) := by decide +kernel
theorem dX7_waits_31 : decode cX7_waits 31 = .ok (.istore_n 2, 1) := by decide +kernel
theorem dX7_waits_32 : decode cX7_waits 32 = .ok (.iinc 3 1, 3) := by decide +kernel
theorem dX7_waits_35 : decode cX7_waits 35 = .ok (.goto (-31), 3) := by decide +kernel
theorem dX7_waits_38 : decode cX7_waits 38 = .ok (.iload_n 2, 1) := by decide +kernel
theorem dX7_waits_39 : decode cX7_waits 39 = .ok (.ireturn, 1) := by decide +kernel
theorem dX7_scrap_0 : decode cX7_scrap 0 = .ok (.aload_n 0, 1) := by decide +kernel
theorem dX7_scrap_1 : decode cX7_scrap 1 = .ok (.aload_n 0, 1) := by decide +kernel
theorem dX7_scrap_2 : decode cX7_scrap 2 = .ok (.iload_n 1, 1) := by decide +kernel
theorem dX7_scrap_3 : decode cX7_scrap 3 = .ok (.invokevirtual 109, 3) := by decide +kernel
theorem dX7_scrap_6 : decode cX7_scrap 6 = .ok (.ifCond .ne 7, 3) := by decide +kernel
theorem dX7_scrap_9 : decode cX7_scrap 9 = .ok (.iconst 1, 1) := by decide +kernel
theorem dX7_scrap_10 : decode cX7_scrap 10 = .ok (.goto 43, 3) := by decide +kernel
theorem dX7_scrap_13 : decode cX7_scrap 13 = .ok (.aload_n 0, 1) := by decide +kernel
theorem dX7_scrap_14 : decode cX7_scrap 14 = .ok (.getfield 19, 3) := by decide +kernel
theorem dX7_scrap_17 : decode cX7_scrap 17 = .ok (.iload_n 1, 1) := by decide +kernel
theorem dX7_scrap_18 : decode cX7_scrap 18 = .ok (.iaload, 1) := by decide +kernel
theorem dX7_scrap_19 : decode cX7_scrap 19 = .ok (.iconst (-1), 1) := by decide +kernel
theorem dX7_scrap_20 : decode cX7_scrap 20 = .ok (.if_icmp .ne 28, 3) := by decide +kernel
theorem dX7_scrap_23 : decode cX7_scrap 23 = .ok (.aload_n 0, 1) := by decide +kernel
theorem dX7_scrap_24 : decode cX7_scrap 24 = .ok (.iload_n 1, 1) := by decide +kernel
theorem dX7_scrap_25 : decode cX7_scrap 25 = .ok (.iconst (-1), 1) := by decide +kernel
theorem dX7_scrap_26 : decode cX7_scrap 26 = .ok (.invokevirtual 128, 3) := by decide +kernel
theorem dX7_scrap_29 : decode cX7_scrap 29 = .ok (.ifCond .gt 19, 3) := by decide +kernel
theorem dX7_scrap_32 : decode cX7_scrap 32 = .ok (.aload_n 0, 1) := by decide +kernel
theorem dX7_scrap_33 : decode cX7_scrap 33 = .ok (.iload_n 1, 1) := by decide +kernel
theorem dX7_scrap_34 : decode cX7_scrap 34 = .ok (.invokevirtual 125, 3) := by decide +kernel
theorem dX7_scrap_37 : decode cX7_scrap 37 = .ok (.ifCond .ne 11, 3) := by decide +kernel
theorem dX7_scrap_40 : decode cX7_scrap 40 = .ok (.aload_n 0, 1) := by decide +kernel
theorem dX7_scrap_41 : decode cX7_scrap 41 = .ok (.iload_n 1, 1) := by decide +kernel
theorem dX7_scrap_42 : decode cX7_scrap 42 = .ok (.invokevirtual 142, 3) := by decide +kernel
theorem dX7_scrap_45 : decode cX7_scrap 45 = .ok (.ifCond .eq 7, 3) := by decide +kernel
theorem dX7_scrap_48 : decode cX7_scrap 48 = .ok (.iconst 2, 1) := by decide +kernel
theorem dX7_scrap_49 : decode cX7_scrap 49 = .ok (.goto 4, 3) := by decide +kernel
theorem dX7_scrap_52 : decode cX7_scrap 52 = .ok (.iconst 0, 1) := by decide +kernel
theorem dX7_scrap_53 : decode cX7_scrap 53 = .ok (.putfield 98, 3) := by decide +kernel
theorem dX7_scrap_56 : decode cX7_scrap 56 = .ok (.aload_n 0, 1) := by decide +kernel
theorem dX7_scrap_57 : decode cX7_scrap 57 = .ok (.getfield 98, 3) := by decide +kernel
theorem dX7_scrap_60 : decode cX7_scrap 60 = .ok (.ifCond .ne 10, 3) := by decide +kernel
theorem dX7_scrap_63 : decode cX7_scrap 63 = .ok (.aload_n 0, 1) := by decide +kernel
theorem dX7_scrap_64 : decode cX7_scrap 64 = .ok (.iload_n 1, 1) := by decide +kernel
theorem dX7_scrap_65 : decode cX7_scrap 65 = .ok (.bipush (-2), 2) := by decide +kernel
theorem dX7_scrap_67 : decode cX7_scrap 67 = .ok (.invokevirtual 131, 3) := by decide +kernel
theorem dX7_scrap_70 : decode cX7_scrap 70 = .ok (.return_, 1) := by decide +kernel
theorem dX7_factor_0 : decode cX7_factor 0 = .ok (.iload_n 0, 1) := by decide +kernel
theorem dX7_factor_1 : decode cX7_factor 1 = .ok (.iconst 3, 1) := by decide +kernel
theorem dX7_factor_2 : decode cX7_factor 2 = .ok (.if_icmp .ne 7, 3) := by decide +kernel
theorem dX7_factor_5 : decode cX7_factor 5 = .ok (.iconst 2, 1) := by decide +kernel
theorem dX7_factor_6 : decode cX7_factor 6 = .ok (.goto 6, 3) := by decide +kernel
theorem dX7_factor_9 : decode cX7_factor 9 = .ok (.iload_n 0, 1) := by decide +kernel
theorem dX7_factor_10 : decode cX7_factor 10 = .ok (.iconst 1, 1) := by decide +kernel
theorem dX7_factor_11 : decode cX7_factor 11 = .ok (.iadd, 1) := by decide +kernel
theorem dX7_factor_12 : decode cX7_factor 12 = .ok (.ireturn, 1) := by decide +kernel
theorem dX7_goes_0 : decode cX7_goes 0 = .ok (.aload_n 0, 1) := by decide +kernel
theorem dX7_goes_1 : decode cX7_goes 1 = .ok (.getfield 22, 3) := by decide +kernel
theorem dX7_goes_4 : decode cX7_goes 4 = .ok (.iload_n 1, 1) := by decide +kernel
theorem dX7_goes_5 : decode cX7_goes 5 = .ok (.iaload, 1) := by decide +kernel
theorem dX7_goes_6 : decode cX7_goes 6 = .ok (.istore 4, 2) := by decide +kernel
theorem dX7_goes_8 : decode cX7_goes 8 = .ok (.aload_n 0, 1) := by decide +kernel
theorem dX7_goes_9 : decode cX7_goes 9 = .ok (.getfield 22, 3) := by decide +kernel
theorem dX7_goes_12 : decode cX7_goes 12 = .ok (.iload_n 1, 1) := by decide +kernel
theorem dX7_goes_13 : decode cX7_goes 13 = .ok (.dup2, 1) := by decide +kernel
theorem dX7_goes_14 : decode cX7_goes 14 = .ok (.iaload, 1) := by decide +kernel
theorem dX7_goes_15 : decode cX7_goes 15 = .ok (.iload_n 2, 1) := by decide +kernel
theorem dX7_goes_16 : decode cX7_goes 16 = .ok (.iadd, 1) := by decide +kernel
theorem dX7_goes_17 : decode cX7_goes 17 = .ok (.iastore, 1) := by decide +kernel
theorem dX7_goes_18 : decode cX7_goes 18 = .ok (.aload_n 0, 1) := by decide +kernel
theorem dX7_goes_19 : decode cX7_goes 19 = .ok (.getfield 25, 3) := by decide +kernel
theorem dX7_goes_22 : decode cX7_goes 22 = .ok (.iload_n 1, 1) := by decide +kernel
theorem dX7_goes_23 : decode cX7_goes 23 = .ok (.dup2, 1) := by decide +kernel
theorem dX7_goes_24 : decode cX7_goes 24 = .ok (.iaload, 1) := by decide +kernel
theorem dX7_goes_25 : decode cX7_goes 25 = .ok (.iload_n 2, 1) := by decide +kernel
theorem dX7_goes_26 : decode cX7_goes 26 = .ok (.iadd, 1) := by decide +kernel
theorem dX7_goes_27 : decode cX7_goes 27 = .ok (.iastore, 1) := by decide +kernel
theorem dX7_goes_28 : decode cX7_goes 28 = .ok (.aload_n 0, 1) := by decide +kernel
theorem dX7_goes_29 : decode cX7_goes 29 = .ok (.getfield 7, 3) := by decide +kernel
theorem dX7_goes_32 : decode cX7_goes 32 = .ok (.iload_n 1, 1) := by decide +kernel
theorem dX7_goes_33 : decode cX7_goes 33 = .ok (.iaload, 1) := by decide +kernel
theorem dX7_goes_34 : decode cX7_goes 34 = .ok (.iconst 3, 1) := by decide +kernel
theorem dX7_goes_35 : decode cX7_goes 35 = .ok (.if_icmp .ne 76, 3) := by decide +kernel
theorem dX7_goes_38 : decode cX7_goes 38 = .ok (.aload_n 0, 1) := by decide +kernel
theorem dX7_goes_39 : decode cX7_goes 39 = .ok (.getfield 50, 3) := by decide +kernel
theorem dX7_goes_42 : decode cX7_goes 42 = .ok (.iload_n 1, 1) := by decide +kernel
theorem dX7_goes_43 : decode cX7_goes 43 = .ok (.iaload, 1) := by decide +kernel
theorem dX7_goes_44 : decode cX7_goes 44 = .ok (.istore 5, 2) := by decide +kernel
theorem dX7_goes_46 : decode cX7_goes 46 = .ok (.aload_n 0, 1) := by decide +kernel
theorem dX7_goes_47 : decode cX7_goes 47 = .ok (.getfield 50, 3) := by decide +kernel
theorem dX7_goes_50 : decode cX7_goes 50 = .ok (.iload_n 1, 1) := by decide +kernel
theorem dX7_goes_51 : decode cX7_goes 51 = .ok (.dup2, 1) := by decide +kernel
theorem dX7_goes_52 : decode cX7_goes 52 = .ok (.iaload, 1) := by decide +kernel
theorem dX7_goes_53 : decode cX7_goes 53 = .ok (.iload_n 2, 1) := by decide +kernel
theorem dX7_goes_54 : decode cX7_goes 54 = .ok (.iload_n 3, 1) := by decide +kernel
theorem dX7_goes_55 : decode cX7_goes 55 = .ok (.invokestatic 145, 3) := by decide +kernel
theorem dX7_goes_58 : decode cX7_goes 58 = .ok (.imul, 1) := by decide +kernel
theorem dX7_goes_59 : decode cX7_goes 59 = .ok (.iadd, 1) := by decide +kernel
theorem dX7_goes_60 : decode cX7_goes 60 = .ok (.iastore, 1) := by decide +kernel
theorem dX7_goes_61 : decode cX7_goes 61 = .ok (.aload_n 0, 1) := by decide +kernel
theorem dX7_goes_62 : decode cX7_goes 62 = .ok (.getfield 44, 3) := by decide +kernel
theorem dX7_goes_65 : decode cX7_goes 65 = .ok (.iload_n 1, 1) := by decide +kernel
theorem dX7_goes_66 : decode cX7_goes 66 = .ok (.dup2, 1) := by decide +kernel
theorem dX7_goes_67 : decode cX7_goes 67 = .ok (.iaload, 1) := by decide +kernel
theorem dX7_goes_68 : decode cX7_goes 68 = .ok (.aload_n 0, 1) := by decide +kernel
theorem dX7_goes_69 : decode cX7_goes 69 = .ok (.getfield 22, 3) := by decide +kernel
theorem dX7_goes_72 : decode cX7_goes 72 = .ok (.iload_n 1, 1) := by decide +kernel
theorem dX7_goes_73 : decode cX7_goes 73 = .ok (.iaload, 1) := by decide +kernel
theorem dX7_goes_74 : decode cX7_goes 74 = .ok (.bipush 100, 2) := by decide +kernel
theorem dX7_goes_76 : decode cX7_goes 76 = .ok (.idiv, 1) := by decide +kernel
theorem dX7_goes_77 : decode cX7_goes 77 = .ok (.iload 4, 2) := by decide +kernel
theorem dX7_goes_79 : decode cX7_goes 79 = .ok (.bipush 100, 2) := by decide +kernel
theorem dX7_goes_81 : decode cX7_goes 81 = .ok (.idiv, 1) := by decide +kernel
theorem dX7_goes_82 : decode cX7_goes 82 = .ok (.isub, 1) := by decide +kernel
theorem dX7_goes_83 : decode cX7_goes 83 = .ok (.isub, 1) := by decide +kernel
theorem dX7_goes_84 : decode cX7_goes 84 = .ok (.iastore, 1) := by decide +kernel
theorem dX7_goes_85 : decode cX7_goes 85 = .ok (.aload_n 0, 1) := by decide +kernel
theorem dX7_goes_86 : decode cX7_goes 86 = .ok (.getfield 47, 3) := by decide +kernel
theorem dX7_goes_89 : decode cX7_goes 89 = .ok (.iload_n 1, 1) := by decide +kernel
theorem dX7_goes_90 : decode cX7_goes 90 = .ok (.dup2, 1) := by decide +kernel
theorem dX7_goes_91 : decode cX7_goes 91 = .ok (.iaload, 1) := by decide +kernel
theorem dX7_goes_92 : decode cX7_goes 92 = .ok (.aload_n 0, 1) := by decide +kernel
theorem dX7_goes_93 : decode cX7_goes 93 = .ok (.getfield 50, 3) := by decide +kernel
theorem dX7_goes_96 : decode cX7_goes 96 = .ok (.iload_n 1, 1) := by decide +kernel
theorem dX7_goes_97 : decode cX7_goes 97 = .ok (.iaload, 1) := by decide +kernel
theorem dX7_goes_98 : decode cX7_goes 98 = .ok (.sipush 200, 3) := by decide +kernel
theorem dX7_goes_101 : decode cX7_goes 101 = .ok (.idiv, 1) := by decide +kernel
theorem dX7_goes_102 : decode cX7_goes 102 = .ok (.iload 5, 2) := by decide +kernel
theorem dX7_goes_104 : decode cX7_goes 104 = .ok (.sipush 200, 3) := by decide +kernel
theorem dX7_goes_107 : decode cX7_goes 107 = .ok (.idiv, 1) := by decide +kernel
theorem dX7_goes_108 : decode cX7_goes 108 = .ok (.isub, 1) := by decide +kernel
theorem dX7_goes_109 : decode cX7_goes 109 = .ok (.isub, 1) := by decide +kernel
theorem dX7_goes_110 : decode cX7_goes 110 = .ok (.iastore, 1) := by decide +kernel
theorem dX7_goes_111 : decode cX7_goes 111 = .ok (.aload_n 0, 1) := by decide +kernel
theorem dX7_goes_112 : decode cX7_goes 112 = .ok (.getfield 59, 3) := by decide +kernel
theorem dX7_goes_115 : decode cX7_goes 115 = .ok (.iload_n 1, 1) := by decide +kernel
theorem dX7_goes_116 : decode cX7_goes 116 = .ok (.iaload, 1) := by decide +kernel
theorem dX7_goes_117 : decode cX7_goes 117 = .ok (.ifCond .ne 7, 3) := by decide +kernel
theorem dX7_goes_120 : decode cX7_goes 120 = .ok (.iconst 0, 1) := by decide +kernel
theorem dX7_goes_121 : decode cX7_goes 121 = .ok (.goto 34, 3) := by decide +kernel
theorem dX7_goes_124 : decode cX7_goes 124 = .ok (.aload_n 0, 1) := by decide +kernel
theorem dX7_goes_125 : decode cX7_goes 125 = .ok (.getfield 22, 3) := by decide +kernel
theorem dX7_goes_128 : decode cX7_goes 128 = .ok (.iload_n 1, 1) := by decide +kernel
theorem dX7_goes_129 : decode cX7_goes 129 = .ok (.iaload, 1) := by decide +kernel
theorem dX7_goes_130 : decode cX7_goes 130 = .ok (.aload_n 0, 1) := by decide +kernel
theorem dX7_goes_131 : decode cX7_goes 131 = .ok (.getfield 62, 3) := by decide +kernel
theorem dX7_goes_134 : decode cX7_goes 134 = .ok (.iload_n 1, 1) := by decide +kernel
theorem dX7_goes_135 : decode cX7_goes 135 = .ok (.iaload, 1) := by decide +kernel
theorem dX7_goes_136 : decode cX7_goes 136 = .ok (.isub, 1) := by decide +kernel
theorem dX7_goes_137 : decode cX7_goes 137 = .ok (.sipush 500, 3) := by decide +kernel
theorem dX7_goes_140 : decode cX7_goes 140 = .ok (.idiv, 1) := by decide +kernel
theorem dX7_goes_141 : decode cX7_goes 141 = .ok (.iload 4, 2) := by decide +kernel
theorem dX7_goes_143 : decode cX7_goes 143 = .ok (.aload_n 0, 1) := by decide +kernel
theorem dX7_goes_144 : decode cX7_goes 144 = .ok (.getfield 62, 3) := by decide +kernel
theorem dX7_goes_147 : decode cX7_goes 147 = .ok (.iload_n 1, 1) := by decide +kernel
theorem dX7_goes_148 : decode cX7_goes 148 = .ok (.iaload, 1) := by decide +kernel
theorem dX7_goes_149 : decode cX7_goes 149 = .ok (.isub, 1) := by decide +kernel
theorem dX7_goes_150 : decode cX7_goes 150 = .ok (.sipush 500, 3) := by decide +kernel
theorem dX7_goes_153 : decode cX7_goes 153 = .ok (.idiv, 1) := by decide +kernel
theorem dX7_goes_154 : decode cX7_goes 154 = .ok (.isub, 1) := by decide +kernel
theorem dX7_goes_155 : decode cX7_goes 155 = .ok (.istore 5, 2) := by decide +kernel
theorem dX7_goes_157 : decode cX7_goes 157 = .ok (.iconst 0, 1) := by decide +kernel
theorem dX7_goes_158 : decode cX7_goes 158 = .ok (.istore 6, 2) := by decide +kernel
theorem dX7_goes_160 : decode cX7_goes 160 = .ok (.iload 6, 2) := by decide +kernel
theorem dX7_goes_162 : decode cX7_goes 162 = .ok (.iload 5, 2) := by decide +kernel
theorem dX7_goes_164 : decode cX7_goes 164 = .ok (.if_icmp .ge 29, 3) := by decide +kernel
theorem dX7_goes_167 : decode cX7_goes 167 = .ok (.aload_n 0, 1) := by decide +kernel
theorem dX7_goes_168 : decode cX7_goes 168 = .ok (.getfield 59, 3) := by decide +kernel
theorem dX7_goes_171 : decode cX7_goes 171 = .ok (.iload_n 1, 1) := by decide +kernel
theorem dX7_goes_172 : decode cX7_goes 172 = .ok (.dup2, 1) := by decide +kernel
theorem dX7_goes_173 : decode cX7_goes 173 = .ok (.iaload, 1) := by decide +kernel
theorem dX7_goes_174 : decode cX7_goes 174 = .ok (.iconst 1, 1) := by decide +kernel
theorem dX7_goes_175 : decode cX7_goes 175 = .ok (.aload_n 0, 1) := by decide +kernel
theorem dX7_goes_176 : decode cX7_goes 176 = .ok (.getfield 59, 3) := by decide +kernel
theorem dX7_goes_179 : decode cX7_goes 179 = .ok (.iload_n 1, 1) := by decide +kernel
theorem dX7_goes_180 : decode cX7_goes 180 = .ok (.iaload, 1) := by decide +kernel
theorem dX7_goes_181 : decode cX7_goes 181 = .ok (.bipush 10, 2) := by decide +kernel
theorem dX7_goes_183 : decode cX7_goes 183 = .ok (.idiv, 1) := by decide +kernel
theorem dX7_goes_184 : decode cX7_goes 184 = .ok (.iadd, 1) := by decide +kernel
theorem dX7_goes_185 : decode cX7_goes 185 = .ok (.iadd, 1) := by decide +kernel
theorem dX7_goes_186 : decode cX7_goes 186 = .ok (.iastore, 1) := by decide +kernel
theorem dX7_goes_187 : decode cX7_goes 187 = .ok (.iinc 6 1, 3) := by decide +kernel
theorem dX7_goes_190 : decode cX7_goes 190 = .ok (.goto (-30), 3) := by decide +kernel
theorem dX7_goes_193 : decode cX7_goes 193 = .ok (.return_, 1) := by decide +kernel
theorem dX7_run_0 : decode cX7_run 0 = .ok (.aload_n 0, 1) := by decide +kernel
theorem dX7_run_1 : decode cX7_run 1 = .ok (.aload_n 0, 1) := by decide +kernel
theorem dX7_run_2 : decode cX7_run 2 = .ok (.iload_n 1, 1) := by decide +kernel
theorem dX7_run_3 : decode cX7_run 3 = .ok (.iconst 0, 1) := by decide +kernel
theorem dX7_run_4 : decode cX7_run 4 = .ok (.invokevirtual 148, 3) := by decide +kernel
theorem dX7_run_7 : decode cX7_run 7 = .ok (.putfield 98, 3) := by decide +kernel
theorem dX7_run_10 : decode cX7_run 10 = .ok (.aload_n 0, 1) := by decide +kernel
theorem dX7_run_11 : decode cX7_run 11 = .ok (.getfield 98, 3) := by decide +kernel
theorem dX7_run_14 : decode cX7_run 14 = .ok (.ifCond .le 5, 3) := by decide +kernel
theorem dX7_run_17 : decode cX7_run 17 = .ok (.iconst 0, 1) := by decide +kernel
theorem dX7_run_18 : decode cX7_run 18 = .ok (.ireturn, 1) := by decide +kernel
theorem dX7_run_19 : decode cX7_run 19 = .ok (.aload_n 0, 1) := by decide +kernel
theorem dX7_run_20 : decode cX7_run 20 = .ok (.iload_n 2, 1) := by decide +kernel
theorem dX7_run_21 : decode cX7_run 21 = .ok (.iconst 1, 1) := by decide +kernel
theorem dX7_run_22 : decode cX7_run 22 = .ok (.sipush 2000, 3) := by decide +kernel
theorem dX7_run_25 : decode cX7_run 25 = .ok (.invokestatic 105, 3) := by decide +kernel
theorem dX7_run_28 : decode cX7_run 28 = .ok (.ifCond .eq 12, 3) := by decide +kernel
theorem dX7_run_31 : decode cX7_run 31 = .ok (.iload_n 3, 1) := by decide +kernel
theorem dX7_run_32 : decode cX7_run 32 = .ok (.iconst 0, 1) := by decide +kernel
theorem dX7_run_33 : decode cX7_run 33 = .ok (.iconst 3, 1) := by decide +kernel
theorem dX7_run_34 : decode cX7_run 34 = .ok (.invokestatic 105, 3) := by decide +kernel
theorem dX7_run_37 : decode cX7_run 37 = .ok (.ifCond .ne 7, 3) := by decide +kernel
theorem dX7_run_40 : decode cX7_run 40 = .ok (.iconst 2, 1) := by decide +kernel
theorem dX7_run_41 : decode cX7_run 41 = .ok (.goto 25, 3) := by decide +kernel
theorem dX7_run_44 : decode cX7_run 44 = .ok (.aload_n 0, 1) := by decide +kernel
theorem dX7_run_45 : decode cX7_run 45 = .ok (.getfield 38, 3) := by decide +kernel
theorem dX7_run_48 : decode cX7_run 48 = .ok (.iload_n 1, 1) := by decide +kernel
theorem dX7_run_49 : decode cX7_run 49 = .ok (.baload, 1) := by decide +kernel
theorem dX7_run_50 : decode cX7_run 50 = .ok (.ifCond .eq 11, 3) := by decide +kernel
theorem dX7_run_53 : decode cX7_run 53 = .ok (.aload_n 0, 1) := by decide +kernel
theorem dX7_run_54 : decode cX7_run 54 = .ok (.iload_n 1, 1) := by decide +kernel
theorem dX7_run_55 : decode cX7_run 55 = .ok (.invokevirtual 125, 3) := by decide +kernel
theorem dX7_run_58 : decode cX7_run 58 = .ok (.ifCond .eq 7, 3) := by decide +kernel
theorem dX7_run_61 : decode cX7_run 61 = .ok (.iconst 3, 1) := by decide +kernel
theorem dX7_run_62 : decode cX7_run 62 = .ok (.goto 4, 3) := by decide +kernel
theorem dX7_run_65 : decode cX7_run 65 = .ok (.iconst 0, 1) := by decide +kernel
theorem dX7_run_66 : decode cX7_run 66 = .ok (.putfield 98, 3) := by decide +kernel
theorem dX7_run_69 : decode cX7_run 69 = .ok (.aload_n 0, 1) := by decide +kernel
theorem dX7_run_70 : decode cX7_run 70 = .ok (.getfield 98, 3) := by decide +kernel
theorem dX7_run_73 : decode cX7_run 73 = .ok (.ifCond .le 5, 3) := by decide +kernel
theorem dX7_run_76 : decode cX7_run 76 = .ok (.iconst 0, 1) := by decide +kernel
theorem dX7_run_77 : decode cX7_run 77 = .ok (.ireturn, 1) := by decide +kernel
theorem dX7_run_78 : decode cX7_run 78 = .ok (.aload_n 0, 1) := by decide +kernel
theorem dX7_run_79 : decode cX7_run 79 = .ok (.getfield 38, 3) := by decide +kernel
theorem dX7_run_82 : decode cX7_run 82 = .ok (.iload_n 1, 1) := by decide +kernel
theorem dX7_run_83 : decode cX7_run 83 = .ok (.iconst 0, 1) := by decide +kernel
theorem dX7_run_84 : decode cX7_run 84 = .ok (.bastore, 1) := by decide +kernel
theorem dX7_run_85 : decode cX7_run 85 = .ok (.iconst (-1), 1) := by decide +kernel
theorem dX7_run_86 : decode cX7_run 86 = .ok (.istore 4, 2) := by decide +kernel
theorem dX7_run_88 : decode cX7_run 88 = .ok (.aload_n 0, 1) := by decide +kernel
theorem dX7_run_89 : decode cX7_run 89 = .ok (.getfield 102, 3) := by decide +kernel
theorem dX7_run_92 : decode cX7_run 92 = .ok (.iconst 1, 1) := by decide +kernel
theorem dX7_run_93 : decode cX7_run 93 = .ok (.isub, 1) := by decide +kernel
theorem dX7_run_94 : decode cX7_run 94 = .ok (.istore 5, 2) := by decide +kernel
theorem dX7_run_96 : decode cX7_run 96 = .ok (.iload 5, 2) := by decide +kernel
theorem dX7_run_98 : decode cX7_run 98 = .ok (.ifCond .lt 48, 3) := by decide +kernel
theorem dX7_run_101 : decode cX7_run 101 = .ok (.aload_n 0, 1) := by decide +kernel
theorem dX7_run_102 : decode cX7_run 102 = .ok (.iload 5, 2) := by decide +kernel
theorem dX7_run_104 : decode cX7_run 104 = .ok (.iload_n 1, 1) := by decide +kernel
theorem dX7_run_105 : decode cX7_run 105 = .ok (.invokevirtual 151, 3) := by decide +kernel
theorem dX7_run_108 : decode cX7_run 108 = .ok (.ifCond .eq 32, 3) := by decide +kernel
theorem dX7_run_111 : decode cX7_run 111 = .ok (.aload_n 0, 1) := by decide +kernel
theorem dX7_run_112 : decode cX7_run 112 = .ok (.iload 5, 2) := by decide +kernel
theorem dX7_run_114 : decode cX7_run 114 = .ok (.iload_n 2, 1) := by decide +kernel
theorem dX7_run_115 : decode cX7_run 115 = .ok (.iload_n 3, 1) := by decide +kernel
theorem dX7_run_116 : decode cX7_run 116 = .ok (.invokevirtual 155, 3) := by decide +kernel
theorem dX7_run_119 : decode cX7_run 119 = .ok (.aload_n 0, 1) := by decide +kernel
theorem dX7_run_120 : decode cX7_run 120 = .ok (.getfield 59, 3) := by decide +kernel
theorem dX7_run_123 : decode cX7_run 123 = .ok (.iload 5, 2) := by decide +kernel
theorem dX7_run_125 : decode cX7_run 125 = .ok (.iaload, 1) := by decide +kernel
theorem dX7_run_126 : decode cX7_run 126 = .ok (.bipush 100, 2) := by decide +kernel
theorem dX7_run_128 : decode cX7_run 128 = .ok (.if_icmp .lt 8, 3) := by decide +kernel
theorem dX7_run_131 : decode cX7_run 131 = .ok (.iload 5, 2) := by decide +kernel
theorem dX7_run_133 : decode cX7_run 133 = .ok (.goto 5, 3) := by decide +kernel
theorem dX7_run_136 : decode cX7_run 136 = .ok (.iload 4, 2) := by decide +kernel
theorem dX7_run_138 : decode cX7_run 138 = .ok (.istore 4, 2) := by decide +kernel
theorem dX7_run_140 : decode cX7_run 140 = .ok (.iinc 5 (-1), 3) := by decide +kernel
theorem dX7_run_143 : decode cX7_run 143 = .ok (.goto (-47), 3) := by decide +kernel
theorem dX7_run_146 : decode cX7_run 146 = .ok (.iconst 0, 1) := by decide +kernel
theorem dX7_run_147 : decode cX7_run 147 = .ok (.istore 5, 2) := by decide +kernel
theorem dX7_run_149 : decode cX7_run 149 = .ok (.iload 5, 2) := by decide +kernel
theorem dX7_run_151 : decode cX7_run 151 = .ok (.aload_n 0, 1) := by decide +kernel
theorem dX7_run_152 : decode cX7_run 152 = .ok (.getfield 102, 3) := by decide +kernel
theorem dX7_run_155 : decode cX7_run 155 = .ok (.if_icmp .ge 47, 3) := by decide +kernel
theorem dX7_run_158 : decode cX7_run 158 = .ok (.iload 4, 2) := by decide +kernel
theorem dX7_run_160 : decode cX7_run 160 = .ok (.iconst (-1), 1) := by decide +kernel
theorem dX7_run_161 : decode cX7_run 161 = .ok (.if_icmp .eq 41, 3) := by decide +kernel
theorem dX7_run_164 : decode cX7_run 164 = .ok (.aload_n 0, 1) := by decide +kernel
theorem dX7_run_165 : decode cX7_run 165 = .ok (.getfield 31, 3) := by decide +kernel
theorem dX7_run_168 : decode cX7_run 168 = .ok (.iload 5, 2) := by decide +kernel
theorem dX7_run_170 : decode cX7_run 170 = .ok (.aload_n 0, 1) := by decide +kernel
theorem dX7_run_171 : decode cX7_run 171 = .ok (.getfield 31, 3) := by decide +kernel
theorem dX7_run_174 : decode cX7_run 174 = .ok (.iload 5, 2) := by decide +kernel
theorem dX7_run_176 : decode cX7_run 176 = .ok (.baload, 1) := by decide +kernel
theorem dX7_run_177 : decode cX7_run 177 = .ok (.ifCond .ne 13, 3) := by decide +kernel
theorem dX7_run_180 : decode cX7_run 180 = .ok (.aload_n 0, 1) := by decide +kernel
theorem dX7_run_181 : decode cX7_run 181 = .ok (.iload 5, 2) := by decide +kernel
theorem dX7_run_183 : decode cX7_run 183 = .ok (.iload_n 1, 1) := by decide +kernel
theorem dX7_run_184 : decode cX7_run 184 = .ok (.invokevirtual 151, 3) := by decide +kernel
theorem dX7_run_187 : decode cX7_run 187 = .ok (.ifCond .eq 7, 3) := by decide +kernel
theorem dX7_run_190 : decode cX7_run 190 = .ok (.iconst 1, 1) := by decide +kernel
theorem dX7_run_191 : decode cX7_run 191 = .ok (.goto 4, 3) := by decide +kernel
theorem dX7_run_194 : decode cX7_run 194 = .ok (.iconst 0, 1) := by decide +kernel
theorem dX7_run_195 : decode cX7_run 195 = .ok (.bastore, 1) := by decide +kernel
theorem dX7_run_196 : decode cX7_run 196 = .ok (.iinc 5 1, 3) := by decide +kernel
theorem dX7_run_199 : decode cX7_run 199 = .ok (.goto (-50), 3) := by decide +kernel
theorem dX7_run_202 : decode cX7_run 202 = .ok (.iload 4, 2) := by decide +kernel
theorem dX7_run_204 : decode cX7_run 204 = .ok (.ireturn, 1) := by decide +kernel
theorem dX7_wheelsetOf_0 : decode cX7_wheelsetOf 0 = .ok (.iconst (-1), 1) := by decide +kernel
theorem dX7_wheelsetOf_1 : decode cX7_wheelsetOf 1 = .ok (.istore_n 3, 1) := by decide +kernel
theorem dX7_wheelsetOf_2 : decode cX7_wheelsetOf 2 = .ok (.iconst 0, 1) := by decide +kernel
theorem dX7_wheelsetOf_3 : decode cX7_wheelsetOf 3 = .ok (.istore 4, 2) := by decide +kernel
theorem dX7_wheelsetOf_5 : decode cX7_wheelsetOf 5 = .ok (.iload 4, 2) := by decide +kernel
theorem dX7_wheelsetOf_7 : decode cX7_wheelsetOf 7 = .ok (.aload_n 0, 1) := by decide +kernel
theorem dX7_wheelsetOf_8 : decode cX7_wheelsetOf 8 = .ok (.getfield 102, 3) := by decide +kernel
theorem dX7_wheelsetOf_11 : decode cX7_wheelsetOf 11 = .ok (.if_icmp .ge 59, 3) := by decide +kernel
theorem dX7_wheelsetOf_14 : decode cX7_wheelsetOf 14 = .ok (.aload_n 0, 1) := by decide +kernel
theorem dX7_wheelsetOf_15 : decode cX7_wheelsetOf 15 = .ok (.getfield 19, 3) := by decide +kernel
theorem dX7_wheelsetOf_18 : decode cX7_wheelsetOf 18 = .ok (.iload 4, 2) := by decide +kernel
theorem dX7_wheelsetOf_20 : decode cX7_wheelsetOf 20 = .ok (.iaload, 1) := by decide +kernel
theorem dX7_wheelsetOf_21 : decode cX7_wheelsetOf 21 = .ok (.iload_n 1, 1) := by decide +kernel
theorem dX7_wheelsetOf_22 : decode cX7_wheelsetOf 22 = .ok (.if_icmp .ne 18, 3) := by decide +kernel
theorem dX7_wheelsetOf_25 : decode cX7_wheelsetOf 25 = .ok (.aload_n 0, 1) := by decide +kernel
theorem dX7_wheelsetOf_26 : decode cX7_wheelsetOf 26 = .ok (.getfield 7, 3) := by decide +kernel
theorem dX7_wheelsetOf_29 : decode cX7_wheelsetOf 29 = .ok (.iload 4, 2) := by decide +kernel
theorem dX7_wheelsetOf_31 : decode cX7_wheelsetOf 31 = .ok (.iaload, 1) := by decide +kernel
theorem dX7_wheelsetOf_32 : decode cX7_wheelsetOf 32 = .ok (.iconst 3, 1) := by decide +kernel
theorem dX7_wheelsetOf_33 : decode cX7_wheelsetOf 33 = .ok (.if_icmp .ne 7, 3) := by decide +kernel
theorem dX7_wheelsetOf_36 : decode cX7_wheelsetOf 36 = .ok (.iconst 1, 1) := by decide +kernel
theorem dX7_wheelsetOf_37 : decode cX7_wheelsetOf 37 = .ok (.goto 4, 3) := by decide +kernel
theorem dX7_wheelsetOf_40 : decode cX7_wheelsetOf 40 = .ok (.iconst 0, 1) := by decide +kernel
theorem dX7_wheelsetOf_41 : decode cX7_wheelsetOf 41 = .ok (.istore 5, 2) := by decide +kernel
theorem dX7_wheelsetOf_43 : decode cX7_wheelsetOf 43 = .ok (.iload 5, 2) := by decide +kernel
theorem dX7_wheelsetOf_45 : decode cX7_wheelsetOf 45 = .ok (.ifCond .eq 17, 3) := by decide +kernel
theorem dX7_wheelsetOf_48 : decode cX7_wheelsetOf 48 = .ok (.iload_n 2, 1) := by decide +kernel
theorem dX7_wheelsetOf_49 : decode cX7_wheelsetOf 49 = .ok (.ifCond .ne 8, 3) := by decide +kernel
theorem dX7_wheelsetOf_52 : decode cX7_wheelsetOf 52 = .ok (.iload_n 3, 1) := by decide +kernel
theorem dX7_wheelsetOf_53 : decode cX7_wheelsetOf 53 = .ok (.iconst (-1), 1) := by decide +kernel
theorem dX7_wheelsetOf_54 : decode cX7_wheelsetOf 54 = .ok (.if_icmp .ne 8, 3) := by decide +kernel
theorem dX7_wheelsetOf_57 : decode cX7_wheelsetOf 57 = .ok (.iload 4, 2) := by decide +kernel
theorem dX7_wheelsetOf_59 : decode cX7_wheelsetOf 59 = .ok (.goto 4, 3) := by decide +kernel
theorem dX7_wheelsetOf_62 : decode cX7_wheelsetOf 62 = .ok (.iload_n 3, 1) := by decide +kernel
theorem dX7_wheelsetOf_63 : decode cX7_wheelsetOf 63 = .ok (.istore_n 3, 1) := by decide +kernel
theorem dX7_wheelsetOf_64 : decode cX7_wheelsetOf 64 = .ok (.iinc 4 1, 3) := by decide +kernel
theorem dX7_wheelsetOf_67 : decode cX7_wheelsetOf 67 = .ok (.goto (-62), 3) := by decide +kernel
theorem dX7_wheelsetOf_70 : decode cX7_wheelsetOf 70 = .ok (.iload_n 3, 1) := by decide +kernel
theorem dX7_wheelsetOf_71 : decode cX7_wheelsetOf 71 = .ok (.ireturn, 1) := by decide +kernel
theorem dX7_trues_0 : decode cX7_trues 0 = .ok (.iconst 2, 1) := by decide +kernel
theorem dX7_trues_1 : decode cX7_trues 1 = .ok (.sipush 300, 3) := by decide +kernel
theorem dX7_trues_4 : decode cX7_trues 4 = .ok (.aload_n 0, 1) := by decide +kernel
theorem dX7_trues_5 : decode cX7_trues 5 = .ok (.getfield 47, 3) := by decide +kernel
theorem dX7_trues_8 : decode cX7_trues 8 = .ok (.iload_n 1, 1) := by decide +kernel
theorem dX7_trues_9 : decode cX7_trues 9 = .ok (.iaload, 1) := by decide +kernel
theorem dX7_trues_10 : decode cX7_trues 10 = .ok (.isub, 1) := by decide +kernel
theorem dX7_trues_11 : decode cX7_trues 11 = .ok (.imul, 1) := by decide +kernel
theorem dX7_trues_12 : decode cX7_trues 12 = .ok (.istore_n 2, 1) := by decide +kernel
theorem dX7_trues_13 : decode cX7_trues 13 = .ok (.aload_n 0, 1) := by decide +kernel
theorem dX7_trues_14 : decode cX7_trues 14 = .ok (.getfield 44, 3) := by decide +kernel
theorem dX7_trues_17 : decode cX7_trues 17 = .ok (.iload_n 1, 1) := by decide +kernel
theorem dX7_trues_18 : decode cX7_trues 18 = .ok (.dup2, 1) := by decide +kernel
theorem dX7_trues_19 : decode cX7_trues 19 = .ok (.iaload, 1) := by decide +kernel
theorem dX7_trues_20 : decode cX7_trues 20 = .ok (.iload_n 2, 1) := by decide +kernel
theorem dX7_trues_21 : decode cX7_trues 21 = .ok (.isub, 1) := by decide +kernel
theorem dX7_trues_22 : decode cX7_trues 22 = .ok (.iastore, 1) := by decide +kernel
theorem dX7_trues_23 : decode cX7_trues 23 = .ok (.aload_n 0, 1) := by decide +kernel
theorem dX7_trues_24 : decode cX7_trues 24 = .ok (.getfield 47, 3) := by decide +kernel
theorem dX7_trues_27 : decode cX7_trues 27 = .ok (.iload_n 1, 1) := by decide +kernel
theorem dX7_trues_28 : decode cX7_trues 28 = .ok (.sipush 300, 3) := by decide +kernel
theorem dX7_trues_31 : decode cX7_trues 31 = .ok (.iastore, 1) := by decide +kernel
theorem dX7_trues_32 : decode cX7_trues 32 = .ok (.iload_n 2, 1) := by decide +kernel
theorem dX7_trues_33 : decode cX7_trues 33 = .ok (.ireturn, 1) := by decide +kernel
theorem dX7_turn_0 : decode cX7_turn 0 = .ok (.aload_n 0, 1) := by decide +kernel
theorem dX7_turn_1 : decode cX7_turn 1 = .ok (.aload_n 0, 1) := by decide +kernel
theorem dX7_turn_2 : decode cX7_turn 2 = .ok (.iload_n 1, 1) := by decide +kernel
theorem dX7_turn_3 : decode cX7_turn 3 = .ok (.iconst 2, 1) := by decide +kernel
theorem dX7_turn_4 : decode cX7_turn 4 = .ok (.invokevirtual 148, 3) := by decide +kernel
theorem dX7_turn_7 : decode cX7_turn 7 = .ok (.putfield 98, 3) := by decide +kernel
theorem dX7_turn_10 : decode cX7_turn 10 = .ok (.aload_n 0, 1) := by decide +kernel
theorem dX7_turn_11 : decode cX7_turn 11 = .ok (.getfield 98, 3) := by decide +kernel
theorem dX7_turn_14 : decode cX7_turn 14 = .ok (.ifCond .le 5, 3) := by decide +kernel
theorem dX7_turn_17 : decode cX7_turn 17 = .ok (.iconst 0, 1) := by decide +kernel
theorem dX7_turn_18 : decode cX7_turn 18 = .ok (.ireturn, 1) := by decide +kernel
theorem dX7_turn_19 : decode cX7_turn 19 = .ok (.aload_n 0, 1) := by decide +kernel
theorem dX7_turn_20 : decode cX7_turn 20 = .ok (.aload_n 0, 1) := by decide +kernel
theorem dX7_turn_21 : decode cX7_turn 21 = .ok (.iload_n 1, 1) := by decide +kernel
theorem dX7_turn_22 : decode cX7_turn 22 = .ok (.iconst 3, 1) := by decide +kernel
theorem dX7_turn_23 : decode cX7_turn 23 = .ok (.invokevirtual 128, 3) := by decide +kernel
theorem dX7_turn_26 : decode cX7_turn 26 = .ok (.iconst 2, 1) := by decide +kernel
theorem dX7_turn_27 : decode cX7_turn 27 = .ok (.if_icmp .lt 11, 3) := by decide +kernel
theorem dX7_turn_30 : decode cX7_turn 30 = .ok (.aload_n 0, 1) := by decide +kernel
theorem dX7_turn_31 : decode cX7_turn 31 = .ok (.iload_n 1, 1) := by decide +kernel
theorem dX7_turn_32 : decode cX7_turn 32 = .ok (.invokevirtual 125, 3) := by decide +kernel
theorem dX7_turn_35 : decode cX7_turn 35 = .ok (.ifCond .eq 7, 3) := by decide +kernel
theorem dX7_turn_38 : decode cX7_turn 38 = .ok (.iconst 3, 1) := by decide +kernel
theorem dX7_turn_39 : decode cX7_turn 39 = .ok (.goto 4, 3) := by decide +kernel
theorem dX7_turn_42 : decode cX7_turn 42 = .ok (.iconst 0, 1) := by decide +kernel
theorem dX7_turn_43 : decode cX7_turn 43 = .ok (.putfield 98, 3) := by decide +kernel
theorem dX7_turn_46 : decode cX7_turn 46 = .ok (.aload_n 0, 1) := by decide +kernel
theorem dX7_turn_47 : decode cX7_turn 47 = .ok (.getfield 98, 3) := by decide +kernel
theorem dX7_turn_50 : decode cX7_turn 50 = .ok (.ifCond .le 5, 3) := by decide +kernel
theorem dX7_turn_53 : decode cX7_turn 53 = .ok (.iconst 0, 1) := by decide +kernel
theorem dX7_turn_54 : decode cX7_turn 54 = .ok (.ireturn, 1) := by decide +kernel
theorem dX7_turn_55 : decode cX7_turn 55 = .ok (.aload_n 0, 1) := by decide +kernel
theorem dX7_turn_56 : decode cX7_turn 56 = .ok (.iload_n 1, 1) := by decide +kernel
theorem dX7_turn_57 : decode cX7_turn 57 = .ok (.iconst 0, 1) := by decide +kernel
theorem dX7_turn_58 : decode cX7_turn 58 = .ok (.invokevirtual 159, 3) := by decide +kernel
theorem dX7_turn_61 : decode cX7_turn 61 = .ok (.istore_n 2, 1) := by decide +kernel
theorem dX7_turn_62 : decode cX7_turn 62 = .ok (.aload_n 0, 1) := by decide +kernel
theorem dX7_turn_63 : decode cX7_turn 63 = .ok (.iload_n 1, 1) := by decide +kernel
theorem dX7_turn_64 : decode cX7_turn 64 = .ok (.iconst 1, 1) := by decide +kernel
theorem dX7_turn_65 : decode cX7_turn 65 = .ok (.invokevirtual 159, 3) := by decide +kernel
theorem dX7_turn_68 : decode cX7_turn 68 = .ok (.istore_n 3, 1) := by decide +kernel
theorem dX7_turn_69 : decode cX7_turn 69 = .ok (.aload_n 0, 1) := by decide +kernel
theorem dX7_turn_70 : decode cX7_turn 70 = .ok (.iload_n 2, 1) := by decide +kernel
theorem dX7_turn_71 : decode cX7_turn 71 = .ok (.invokevirtual 163, 3) := by decide +kernel
theorem dX7_turn_74 : decode cX7_turn 74 = .ok (.aload_n 0, 1) := by decide +kernel
theorem dX7_turn_75 : decode cX7_turn 75 = .ok (.iload_n 3, 1) := by decide +kernel
theorem dX7_turn_76 : decode cX7_turn 76 = .ok (.invokevirtual 163, 3) := by decide +kernel
theorem dX7_turn_79 : decode cX7_turn 79 = .ok (.iadd, 1) := by decide +kernel
theorem dX7_turn_80 : decode cX7_turn 80 = .ok (.istore 4, 2) := by decide +kernel
theorem dX7_turn_82 : decode cX7_turn 82 = .ok (.aload_n 0, 1) := by decide +kernel
theorem dX7_turn_83 : decode cX7_turn 83 = .ok (.getfield 44, 3) := by decide +kernel
theorem dX7_turn_86 : decode cX7_turn 86 = .ok (.iload_n 2, 1) := by decide +kernel
theorem dX7_turn_87 : decode cX7_turn 87 = .ok (.iaload, 1) := by decide +kernel
theorem dX7_turn_88 : decode cX7_turn 88 = .ok (.aload_n 0, 1) := by decide +kernel
theorem dX7_turn_89 : decode cX7_turn 89 = .ok (.getfield 44, 3) := by decide +kernel
theorem dX7_turn_92 : decode cX7_turn 92 = .ok (.iload_n 3, 1) := by decide +kernel
theorem dX7_turn_93 : decode cX7_turn 93 = .ok (.iaload, 1) := by decide +kernel
theorem dX7_turn_94 : decode cX7_turn 94 = .ok (.if_icmp .ge 12, 3) := by decide +kernel
theorem dX7_turn_97 : decode cX7_turn 97 = .ok (.aload_n 0, 1) := by decide +kernel
theorem dX7_turn_98 : decode cX7_turn 98 = .ok (.getfield 44, 3) := by decide +kernel
theorem dX7_turn_101 : decode cX7_turn 101 = .ok (.iload_n 2, 1) := by decide +kernel
theorem dX7_turn_102 : decode cX7_turn 102 = .ok (.iaload, 1) := by decide +kernel
theorem dX7_turn_103 : decode cX7_turn 103 = .ok (.goto 9, 3) := by decide +kernel
theorem dX7_turn_106 : decode cX7_turn 106 = .ok (.aload_n 0, 1) := by decide +kernel
theorem dX7_turn_107 : decode cX7_turn 107 = .ok (.getfield 44, 3) := by decide +kernel
theorem dX7_turn_110 : decode cX7_turn 110 = .ok (.iload_n 3, 1) := by decide +kernel
theorem dX7_turn_111 : decode cX7_turn 111 = .ok (.iaload, 1) := by decide +kernel
theorem dX7_turn_112 : decode cX7_turn 112 = .ok (.istore 5, 2) := by decide +kernel
theorem dX7_turn_114 : decode cX7_turn 114 = .ok (.iload 4, 2) := by decide +kernel
theorem dX7_turn_116 : decode cX7_turn 116 = .ok (.aload_n 0, 1) := by decide +kernel
theorem dX7_turn_117 : decode cX7_turn 117 = .ok (.getfield 44, 3) := by decide +kernel
theorem dX7_turn_120 : decode cX7_turn 120 = .ok (.iload_n 2, 1) := by decide +kernel
theorem dX7_turn_121 : decode cX7_turn 121 = .ok (.iaload, 1) := by decide +kernel
theorem dX7_turn_122 : decode cX7_turn 122 = .ok (.iload 5, 2) := by decide +kernel
theorem dX7_turn_124 : decode cX7_turn 124 = .ok (.isub, 1) := by decide +kernel
theorem dX7_turn_125 : decode cX7_turn 125 = .ok (.aload_n 0, 1) := by decide +kernel
theorem dX7_turn_126 : decode cX7_turn 126 = .ok (.getfield 44, 3) := by decide +kernel
theorem dX7_turn_129 : decode cX7_turn 129 = .ok (.iload_n 3, 1) := by decide +kernel
theorem dX7_turn_130 : decode cX7_turn 130 = .ok (.iaload, 1) := by decide +kernel
theorem dX7_turn_131 : decode cX7_turn 131 = .ok (.iadd, 1) := by decide +kernel
theorem dX7_turn_132 : decode cX7_turn 132 = .ok (.iload 5, 2) := by decide +kernel
theorem dX7_turn_134 : decode cX7_turn 134 = .ok (.isub, 1) := by decide +kernel
theorem dX7_turn_135 : decode cX7_turn 135 = .ok (.iadd, 1) := by decide +kernel
theorem dX7_turn_136 : decode cX7_turn 136 = .ok (.istore 4, 2) := by decide +kernel
theorem dX7_turn_138 : decode cX7_turn 138 = .ok (.aload_n 0, 1) := by decide +kernel
theorem dX7_turn_139 : decode cX7_turn 139 = .ok (.getfield 44, 3) := by decide +kernel
theorem dX7_turn_142 : decode cX7_turn 142 = .ok (.iload_n 2, 1) := by decide +kernel
theorem dX7_turn_143 : decode cX7_turn 143 = .ok (.iload 5, 2) := by decide +kernel
theorem dX7_turn_145 : decode cX7_turn 145 = .ok (.iastore, 1) := by decide +kernel
theorem dX7_turn_146 : decode cX7_turn 146 = .ok (.aload_n 0, 1) := by decide +kernel
theorem dX7_turn_147 : decode cX7_turn 147 = .ok (.getfield 44, 3) := by decide +kernel
theorem dX7_turn_150 : decode cX7_turn 150 = .ok (.iload_n 3, 1) := by decide +kernel
theorem dX7_turn_151 : decode cX7_turn 151 = .ok (.iload 5, 2) := by decide +kernel
theorem dX7_turn_153 : decode cX7_turn 153 = .ok (.iastore, 1) := by decide +kernel
theorem dX7_turn_154 : decode cX7_turn 154 = .ok (.iload 4, 2) := by decide +kernel
theorem dX7_turn_156 : decode cX7_turn 156 = .ok (.ireturn, 1) := by decide +kernel
theorem dX7_gate_0 : decode cX7_gate 0 = .ok (.aload_n 0, 1) := by decide +kernel
theorem dX7_gate_1 : decode cX7_gate 1 = .ok (.aload_n 0, 1) := by decide +kernel
theorem dX7_gate_2 : decode cX7_gate 2 = .ok (.iload_n 1, 1) := by decide +kernel
theorem dX7_gate_3 : decode cX7_gate 3 = .ok (.iconst 3, 1) := by decide +kernel
theorem dX7_gate_4 : decode cX7_gate 4 = .ok (.invokevirtual 148, 3) := by decide +kernel
theorem dX7_gate_7 : decode cX7_gate 7 = .ok (.putfield 98, 3) := by decide +kernel
theorem dX7_gate_10 : decode cX7_gate 10 = .ok (.aload_n 0, 1) := by decide +kernel
theorem dX7_gate_11 : decode cX7_gate 11 = .ok (.aload_n 0, 1) := by decide +kernel
theorem dX7_gate_12 : decode cX7_gate 12 = .ok (.getfield 98, 3) := by decide +kernel
theorem dX7_gate_15 : decode cX7_gate 15 = .ok (.ifCond .ne 17, 3) := by decide +kernel
theorem dX7_gate_18 : decode cX7_gate 18 = .ok (.iload_n 2, 1) := by decide +kernel
theorem dX7_gate_19 : decode cX7_gate 19 = .ok (.bipush (-5), 2) := by decide +kernel
theorem dX7_gate_21 : decode cX7_gate 21 = .ok (.iconst 5, 1) := by decide +kernel
theorem dX7_gate_22 : decode cX7_gate 22 = .ok (.invokestatic 105, 3) := by decide +kernel
theorem dX7_gate_25 : decode cX7_gate 25 = .ok (.ifCond .ne 7, 3) := by decide +kernel
theorem dX7_gate_28 : decode cX7_gate 28 = .ok (.iconst 2, 1) := by decide +kernel
theorem dX7_gate_29 : decode cX7_gate 29 = .ok (.goto 7, 3) := by decide +kernel
theorem dX7_gate_32 : decode cX7_gate 32 = .ok (.aload_n 0, 1) := by decide +kernel
theorem dX7_gate_33 : decode cX7_gate 33 = .ok (.getfield 98, 3) := by decide +kernel
theorem dX7_gate_36 : decode cX7_gate 36 = .ok (.putfield 98, 3) := by decide +kernel
theorem dX7_gate_39 : decode cX7_gate 39 = .ok (.aload_n 0, 1) := by decide +kernel
theorem dX7_gate_40 : decode cX7_gate 40 = .ok (.getfield 98, 3) := by decide +kernel
theorem dX7_gate_43 : decode cX7_gate 43 = .ok (.ifCond .le 5, 3) := by decide +kernel
theorem dX7_gate_46 : decode cX7_gate 46 = .ok (.iconst 0, 1) := by decide +kernel
theorem dX7_gate_47 : decode cX7_gate 47 = .ok (.ireturn, 1) := by decide +kernel
theorem dX7_gate_48 : decode cX7_gate 48 = .ok (.aload_n 0, 1) := by decide +kernel
theorem dX7_gate_49 : decode cX7_gate 49 = .ok (.getfield 53, 3) := by decide +kernel
theorem dX7_gate_52 : decode cX7_gate 52 = .ok (.iload_n 1, 1) := by decide +kernel
theorem dX7_gate_53 : decode cX7_gate 53 = .ok (.aload_n 0, 1) := by decide +kernel
theorem dX7_gate_54 : decode cX7_gate 54 = .ok (.getfield 47, 3) := by decide +kernel
theorem dX7_gate_57 : decode cX7_gate 57 = .ok (.iload_n 1, 1) := by decide +kernel
theorem dX7_gate_58 : decode cX7_gate 58 = .ok (.iaload, 1) := by decide +kernel
theorem dX7_gate_59 : decode cX7_gate 59 = .ok (.iload_n 2, 1) := by decide +kernel
theorem dX7_gate_60 : decode cX7_gate 60 = .ok (.iadd, 1) := by decide +kernel
theorem dX7_gate_61 : decode cX7_gate 61 = .ok (.iastore, 1) := by decide +kernel
theorem dX7_gate_62 : decode cX7_gate 62 = .ok (.aload_n 0, 1) := by decide +kernel
theorem dX7_gate_63 : decode cX7_gate 63 = .ok (.getfield 56, 3) := by decide +kernel
theorem dX7_gate_66 : decode cX7_gate 66 = .ok (.iload_n 1, 1) := by decide +kernel
theorem dX7_gate_67 : decode cX7_gate 67 = .ok (.iconst 1, 1) := by decide +kernel
theorem dX7_gate_68 : decode cX7_gate 68 = .ok (.bastore, 1) := by decide +kernel
theorem dX7_gate_69 : decode cX7_gate 69 = .ok (.aload_n 0, 1) := by decide +kernel
theorem dX7_gate_70 : decode cX7_gate 70 = .ok (.getfield 53, 3) := by decide +kernel
theorem dX7_gate_73 : decode cX7_gate 73 = .ok (.iload_n 1, 1) := by decide +kernel
theorem dX7_gate_74 : decode cX7_gate 74 = .ok (.iaload, 1) := by decide +kernel
theorem dX7_gate_75 : decode cX7_gate 75 = .ok (.ireturn, 1) := by decide +kernel
theorem dX7_examine_0 : decode cX7_examine 0 = .ok (.aload_n 0, 1) := by decide +kernel
theorem dX7_examine_1 : decode cX7_examine 1 = .ok (.aload_n 0, 1) := by decide +kernel
theorem dX7_examine_2 : decode cX7_examine 2 = .ok (.iload_n 1, 1) := by decide +kernel
theorem dX7_examine_3 : decode cX7_examine 3 = .ok (.invokevirtual 109, 3) := by decide +kernel
theorem dX7_examine_6 : decode cX7_examine 6 = .ok (.ifCond .eq 7, 3) := by decide +kernel
theorem dX7_examine_9 : decode cX7_examine 9 = .ok (.iconst 0, 1) := by decide +kernel
theorem dX7_examine_10 : decode cX7_examine 10 = .ok (.goto 4, 3) := by decide +kernel
theorem dX7_examine_13 : decode cX7_examine 13 = .ok (.iconst 1, 1) := by decide +kernel
theorem dX7_examine_14 : decode cX7_examine 14 = .ok (.putfield 98, 3) := by decide +kernel
theorem dX7_examine_17 : decode cX7_examine 17 = .ok (.aload_n 0, 1) := by decide +kernel
theorem dX7_examine_18 : decode cX7_examine 18 = .ok (.getfield 98, 3) := by decide +kernel
theorem dX7_examine_21 : decode cX7_examine 21 = .ok (.ifCond .le 5, 3) := by decide +kernel
theorem dX7_examine_24 : decode cX7_examine 24 = .ok (.iconst 0, 1) := by decide +kernel
theorem dX7_examine_25 : decode cX7_examine 25 = .ok (.ireturn, 1) := by decide +kernel
theorem dX7_examine_26 : decode cX7_examine 26 = .ok (.aload_n 0, 1) := by decide +kernel
theorem dX7_examine_27 : decode cX7_examine 27 = .ok (.getfield 68, 3) := by decide +kernel
theorem dX7_examine_30 : decode cX7_examine 30 = .ok (.aload_n 0, 1) := by decide +kernel
theorem dX7_examine_31 : decode cX7_examine 31 = .ok (.getfield 7, 3) := by decide +kernel
theorem dX7_examine_34 : decode cX7_examine 34 = .ok (.iload_n 1, 1) := by decide +kernel
theorem dX7_examine_35 : decode cX7_examine 35 = .ok (.iaload, 1) := by decide +kernel
theorem dX7_examine_36 : decode cX7_examine 36 = .ok (.iaload, 1) := by decide +kernel
theorem dX7_examine_37 : decode cX7_examine 37 = .ok (.istore_n 2, 1) := by decide +kernel
theorem dX7_examine_38 : decode cX7_examine 38 = .ok (.iload_n 2, 1) := by decide +kernel
theorem dX7_examine_39 : decode cX7_examine 39 = .ok (.ifCond .le 48, 3) := by decide +kernel
theorem dX7_examine_42 : decode cX7_examine 42 = .ok (.aload_n 0, 1) := by decide +kernel
theorem dX7_examine_43 : decode cX7_examine 43 = .ok (.getfield 25, 3) := by decide +kernel
theorem dX7_examine_46 : decode cX7_examine 46 = .ok (.iload_n 1, 1) := by decide +kernel
theorem dX7_examine_47 : decode cX7_examine 47 = .ok (.iaload, 1) := by decide +kernel
theorem dX7_examine_48 : decode cX7_examine 48 = .ok (.iload_n 2, 1) := by decide +kernel
theorem dX7_examine_49 : decode cX7_examine 49 = .ok (.aload_n 0, 1) := by decide +kernel
theorem dX7_examine_50 : decode cX7_examine 50 = .ok (.getfield 71, 3) := by decide +kernel
theorem dX7_examine_53 : decode cX7_examine 53 = .ok (.aload_n 0, 1) := by decide +kernel
theorem dX7_examine_54 : decode cX7_examine 54 = .ok (.getfield 7, 3) := by decide +kernel
theorem dX7_examine_57 : decode cX7_examine 57 = .ok (.iload_n 1, 1) := by decide +kernel
theorem dX7_examine_58 : decode cX7_examine 58 = .ok (.iaload, 1) := by decide +kernel
theorem dX7_examine_59 : decode cX7_examine 59 = .ok (.iaload, 1) := by decide +kernel
theorem dX7_examine_60 : decode cX7_examine 60 = .ok (.isub, 1) := by decide +kernel
theorem dX7_examine_61 : decode cX7_examine 61 = .ok (.if_icmp .lt 26, 3) := by decide +kernel
theorem dX7_examine_64 : decode cX7_examine 64 = .ok (.aload_n 0, 1) := by decide +kernel
theorem dX7_examine_65 : decode cX7_examine 65 = .ok (.getfield 19, 3) := by decide +kernel
theorem dX7_examine_68 : decode cX7_examine 68 = .ok (.iload_n 1, 1) := by decide +kernel
theorem dX7_examine_69 : decode cX7_examine 69 = .ok (.iaload, 1) := by decide +kernel
theorem dX7_examine_70 : decode cX7_examine 70 = .ok (.bipush (-2), 2) := by decide +kernel
theorem dX7_examine_72 : decode cX7_examine 72 = .ok (.if_icmp .eq 15, 3) := by decide +kernel
theorem dX7_examine_75 : decode cX7_examine 75 = .ok (.aload_n 0, 1) := by decide +kernel
theorem dX7_examine_76 : decode cX7_examine 76 = .ok (.iload_n 1, 1) := by decide +kernel
theorem dX7_examine_77 : decode cX7_examine 77 = .ok (.invokevirtual 125, 3) := by decide +kernel
theorem dX7_examine_80 : decode cX7_examine 80 = .ok (.ifCond .ne 7, 3) := by decide +kernel
theorem dX7_examine_83 : decode cX7_examine 83 = .ok (.iconst 1, 1) := by decide +kernel
theorem dX7_examine_84 : decode cX7_examine 84 = .ok (.goto 4, 3) := by decide +kernel
theorem dX7_examine_87 : decode cX7_examine 87 = .ok (.iconst 0, 1) := by decide +kernel
theorem dX7_examine_88 : decode cX7_examine 88 = .ok (.istore_n 3, 1) := by decide +kernel
theorem dX7_examine_89 : decode cX7_examine 89 = .ok (.aload_n 0, 1) := by decide +kernel
theorem dX7_examine_90 : decode cX7_examine 90 = .ok (.iload_n 3, 1) := by decide +kernel
theorem dX7_examine_91 : decode cX7_examine 91 = .ok (.ifCond .eq 7, 3) := by decide +kernel
theorem dX7_examine_94 : decode cX7_examine 94 = .ok (.iconst 0, 1) := by decide +kernel
theorem dX7_examine_95 : decode cX7_examine 95 = .ok (.goto 4, 3) := by decide +kernel
theorem dX7_examine_98 : decode cX7_examine 98 = .ok (.iconst 2, 1) := by decide +kernel
theorem dX7_examine_99 : decode cX7_examine 99 = .ok (.putfield 98, 3) := by decide +kernel
theorem dX7_examine_102 : decode cX7_examine 102 = .ok (.aload_n 0, 1) := by decide +kernel
theorem dX7_examine_103 : decode cX7_examine 103 = .ok (.getfield 98, 3) := by decide +kernel
theorem dX7_examine_106 : decode cX7_examine 106 = .ok (.ifCond .le 5, 3) := by decide +kernel
theorem dX7_examine_109 : decode cX7_examine 109 = .ok (.iconst 0, 1) := by decide +kernel
theorem dX7_examine_110 : decode cX7_examine 110 = .ok (.ireturn, 1) := by decide +kernel
theorem dX7_examine_111 : decode cX7_examine 111 = .ok (.aload_n 0, 1) := by decide +kernel
theorem dX7_examine_112 : decode cX7_examine 112 = .ok (.getfield 25, 3) := by decide +kernel
theorem dX7_examine_115 : decode cX7_examine 115 = .ok (.iload_n 1, 1) := by decide +kernel
theorem dX7_examine_116 : decode cX7_examine 116 = .ok (.iaload, 1) := by decide +kernel
theorem dX7_examine_117 : decode cX7_examine 117 = .ok (.istore 4, 2) := by decide +kernel
theorem dX7_examine_119 : decode cX7_examine 119 = .ok (.aload_n 0, 1) := by decide +kernel
theorem dX7_examine_120 : decode cX7_examine 120 = .ok (.getfield 25, 3) := by decide +kernel
theorem dX7_examine_123 : decode cX7_examine 123 = .ok (.iload_n 1, 1) := by decide +kernel
theorem dX7_examine_124 : decode cX7_examine 124 = .ok (.iconst 0, 1) := by decide +kernel
theorem dX7_examine_125 : decode cX7_examine 125 = .ok (.iastore, 1) := by decide +kernel
theorem dX7_examine_126 : decode cX7_examine 126 = .ok (.aload_n 0, 1) := by decide +kernel
theorem dX7_examine_127 : decode cX7_examine 127 = .ok (.getfield 28, 3) := by decide +kernel
theorem dX7_examine_130 : decode cX7_examine 130 = .ok (.iload_n 1, 1) := by decide +kernel
theorem dX7_examine_131 : decode cX7_examine 131 = .ok (.iconst 0, 1) := by decide +kernel
theorem dX7_examine_132 : decode cX7_examine 132 = .ok (.iastore, 1) := by decide +kernel
theorem dX7_examine_133 : decode cX7_examine 133 = .ok (.iload 4, 2) := by decide +kernel
theorem dX7_examine_135 : decode cX7_examine 135 = .ok (.ireturn, 1) := by decide +kernel
theorem dX7_waive_0 : decode cX7_waive 0 = .ok (.aload_n 0, 1) := by decide +kernel
theorem dX7_waive_1 : decode cX7_waive 1 = .ok (.aload_n 0, 1) := by decide +kernel
theorem dX7_waive_2 : decode cX7_waive 2 = .ok (.iload_n 1, 1) := by decide +kernel
theorem dX7_waive_3 : decode cX7_waive 3 = .ok (.invokevirtual 109, 3) := by decide +kernel
theorem dX7_waive_6 : decode cX7_waive 6 = .ok (.ifCond .ne 7, 3) := by decide +kernel
theorem dX7_waive_9 : decode cX7_waive 9 = .ok (.iconst 1, 1) := by decide +kernel
theorem dX7_waive_10 : decode cX7_waive 10 = .ok (.goto 19, 3) := by decide +kernel
theorem dX7_waive_13 : decode cX7_waive 13 = .ok (.iload_n 2, 1) := by decide +kernel
theorem dX7_waive_14 : decode cX7_waive 14 = .ok (.iconst 1, 1) := by decide +kernel
theorem dX7_waive_15 : decode cX7_waive 15 = .ok (.sipush 999, 3) := by decide +kernel
theorem dX7_waive_18 : decode cX7_waive 18 = .ok (.invokestatic 105, 3) := by decide +kernel
theorem dX7_waive_21 : decode cX7_waive 21 = .ok (.ifCond .eq 7, 3) := by decide +kernel
theorem dX7_waive_24 : decode cX7_waive 24 = .ok (.iconst 0, 1) := by decide +kernel
theorem dX7_waive_25 : decode cX7_waive 25 = .ok (.goto 4, 3) := by decide +kernel
theorem dX7_waive_28 : decode cX7_waive 28 = .ok (.iconst 2, 1) := by decide +kernel
theorem dX7_waive_29 : decode cX7_waive 29 = .ok (.putfield 98, 3) := by decide +kernel
theorem dX7_waive_32 : decode cX7_waive 32 = .ok (.aload_n 0, 1) := by decide +kernel
theorem dX7_waive_33 : decode cX7_waive 33 = .ok (.getfield 98, 3) := by decide +kernel
theorem dX7_waive_36 : decode cX7_waive 36 = .ok (.ifCond .ne 35, 3) := by decide +kernel
theorem dX7_waive_39 : decode cX7_waive 39 = .ok (.aload_n 0, 1) := by decide +kernel
theorem dX7_waive_40 : decode cX7_waive 40 = .ok (.aload_n 0, 1) := by decide +kernel
theorem dX7_waive_41 : decode cX7_waive 41 = .ok (.getfield 68, 3) := by decide +kernel
theorem dX7_waive_44 : decode cX7_waive 44 = .ok (.aload_n 0, 1) := by decide +kernel
theorem dX7_waive_45 : decode cX7_waive 45 = .ok (.getfield 7, 3) := by decide +kernel
theorem dX7_waive_48 : decode cX7_waive 48 = .ok (.iload_n 1, 1) := by decide +kernel
theorem dX7_waive_49 : decode cX7_waive 49 = .ok (.iaload, 1) := by decide +kernel
theorem dX7_waive_50 : decode cX7_waive 50 = .ok (.iaload, 1) := by decide +kernel
theorem dX7_waive_51 : decode cX7_waive 51 = .ok (.ifCond .eq 12, 3) := by decide +kernel
theorem dX7_waive_54 : decode cX7_waive 54 = .ok (.aload_n 0, 1) := by decide +kernel
theorem dX7_waive_55 : decode cX7_waive 55 = .ok (.getfield 28, 3) := by decide +kernel
theorem dX7_waive_58 : decode cX7_waive 58 = .ok (.iload_n 1, 1) := by decide +kernel
theorem dX7_waive_59 : decode cX7_waive 59 = .ok (.iaload, 1) := by decide +kernel
theorem dX7_waive_60 : decode cX7_waive 60 = .ok (.ifCond .le 7, 3) := by decide +kernel
theorem dX7_waive_63 : decode cX7_waive 63 = .ok (.iconst 3, 1) := by decide +kernel
theorem dX7_waive_64 : decode cX7_waive 64 = .ok (.goto 4, 3) := by decide +kernel
theorem dX7_waive_67 : decode cX7_waive 67 = .ok (.iconst 0, 1) := by decide +kernel
theorem dX7_waive_68 : decode cX7_waive 68 = .ok (.putfield 98, 3) := by decide +kernel
theorem dX7_waive_71 : decode cX7_waive 71 = .ok (.aload_n 0, 1) := by decide +kernel
theorem dX7_waive_72 : decode cX7_waive 72 = .ok (.getfield 98, 3) := by decide +kernel
theorem dX7_waive_75 : decode cX7_waive 75 = .ok (.ifCond .ne 10, 3) := by decide +kernel
theorem dX7_waive_78 : decode cX7_waive 78 = .ok (.aload_n 0, 1) := by decide +kernel
theorem dX7_waive_79 : decode cX7_waive 79 = .ok (.getfield 28, 3) := by decide +kernel
theorem dX7_waive_82 : decode cX7_waive 82 = .ok (.iload_n 1, 1) := by decide +kernel
theorem dX7_waive_83 : decode cX7_waive 83 = .ok (.iload_n 2, 1) := by decide +kernel
theorem dX7_waive_84 : decode cX7_waive 84 = .ok (.iastore, 1) := by decide +kernel
theorem dX7_waive_85 : decode cX7_waive 85 = .ok (.return_, 1) := by decide +kernel
theorem dX7_flaw_0 : decode cX7_flaw 0 = .ok (.aload_n 0, 1) := by decide +kernel
theorem dX7_flaw_1 : decode cX7_flaw 1 = .ok (.aload_n 0, 1) := by decide +kernel
theorem dX7_flaw_2 : decode cX7_flaw 2 = .ok (.iload_n 1, 1) := by decide +kernel
theorem dX7_flaw_3 : decode cX7_flaw 3 = .ok (.invokevirtual 109, 3) := by decide +kernel
theorem dX7_flaw_6 : decode cX7_flaw 6 = .ok (.ifCond .ne 7, 3) := by decide +kernel
theorem dX7_flaw_9 : decode cX7_flaw 9 = .ok (.iconst 1, 1) := by decide +kernel
theorem dX7_flaw_10 : decode cX7_flaw 10 = .ok (.goto 28, 3) := by decide +kernel
theorem dX7_flaw_13 : decode cX7_flaw 13 = .ok (.aload_n 0, 1) := by decide +kernel
theorem dX7_flaw_14 : decode cX7_flaw 14 = .ok (.getfield 7, 3) := by decide +kernel
theorem dX7_flaw_17 : decode cX7_flaw 17 = .ok (.iload_n 1, 1) := by decide +kernel
theorem dX7_flaw_18 : decode cX7_flaw 18 = .ok (.iaload, 1) := by decide +kernel
theorem dX7_flaw_19 : decode cX7_flaw 19 = .ok (.iconst 3, 1) := by decide +kernel
theorem dX7_flaw_20 : decode cX7_flaw 20 = .ok (.if_icmp .lt 13, 3) := by decide +kernel
theorem dX7_flaw_23 : decode cX7_flaw 23 = .ok (.iload_n 2, 1) := by decide +kernel
theorem dX7_flaw_24 : decode cX7_flaw 24 = .ok (.iconst 1, 1) := by decide +kernel
theorem dX7_flaw_25 : decode cX7_flaw 25 = .ok (.bipush 99, 2) := by decide +kernel
theorem dX7_flaw_27 : decode cX7_flaw 27 = .ok (.invokestatic 105, 3) := by decide +kernel
theorem dX7_flaw_30 : decode cX7_flaw 30 = .ok (.ifCond .ne 7, 3) := by decide +kernel
theorem dX7_flaw_33 : decode cX7_flaw 33 = .ok (.iconst 2, 1) := by decide +kernel
theorem dX7_flaw_34 : decode cX7_flaw 34 = .ok (.goto 4, 3) := by decide +kernel
theorem dX7_flaw_37 : decode cX7_flaw 37 = .ok (.iconst 0, 1) := by decide +kernel
theorem dX7_flaw_38 : decode cX7_flaw 38 = .ok (.putfield 98, 3) := by decide +kernel
theorem dX7_flaw_41 : decode cX7_flaw 41 = .ok (.aload_n 0, 1) := by decide +kernel
theorem dX7_flaw_42 : decode cX7_flaw 42 = .ok (.getfield 98, 3) := by decide +kernel
theorem dX7_flaw_45 : decode cX7_flaw 45 = .ok (.ifCond .le 5, 3) := by decide +kernel
theorem dX7_flaw_48 : decode cX7_flaw 48 = .ok (.iconst 0, 1) := by decide +kernel
theorem dX7_flaw_49 : decode cX7_flaw 49 = .ok (.ireturn, 1) := by decide +kernel
theorem dX7_flaw_50 : decode cX7_flaw 50 = .ok (.aload_n 0, 1) := by decide +kernel
theorem dX7_flaw_51 : decode cX7_flaw 51 = .ok (.getfield 59, 3) := by decide +kernel
theorem dX7_flaw_54 : decode cX7_flaw 54 = .ok (.iload_n 1, 1) := by decide +kernel
theorem dX7_flaw_55 : decode cX7_flaw 55 = .ok (.iaload, 1) := by decide +kernel
theorem dX7_flaw_56 : decode cX7_flaw 56 = .ok (.istore_n 3, 1) := by decide +kernel
theorem dX7_flaw_57 : decode cX7_flaw 57 = .ok (.aload_n 0, 1) := by decide +kernel
theorem dX7_flaw_58 : decode cX7_flaw 58 = .ok (.getfield 59, 3) := by decide +kernel
theorem dX7_flaw_61 : decode cX7_flaw 61 = .ok (.iload_n 1, 1) := by decide +kernel
theorem dX7_flaw_62 : decode cX7_flaw 62 = .ok (.iload_n 2, 1) := by decide +kernel
theorem dX7_flaw_63 : decode cX7_flaw 63 = .ok (.iastore, 1) := by decide +kernel
theorem dX7_flaw_64 : decode cX7_flaw 64 = .ok (.aload_n 0, 1) := by decide +kernel
theorem dX7_flaw_65 : decode cX7_flaw 65 = .ok (.getfield 62, 3) := by decide +kernel
theorem dX7_flaw_68 : decode cX7_flaw 68 = .ok (.iload_n 1, 1) := by decide +kernel
theorem dX7_flaw_69 : decode cX7_flaw 69 = .ok (.aload_n 0, 1) := by decide +kernel
theorem dX7_flaw_70 : decode cX7_flaw 70 = .ok (.getfield 22, 3) := by decide +kernel
theorem dX7_flaw_73 : decode cX7_flaw 73 = .ok (.iload_n 1, 1) := by decide +kernel
theorem dX7_flaw_74 : decode cX7_flaw 74 = .ok (.iaload, 1) := by decide +kernel
theorem dX7_flaw_75 : decode cX7_flaw 75 = .ok (.iastore, 1) := by decide +kernel
theorem dX7_flaw_76 : decode cX7_flaw 76 = .ok (.iload_n 3, 1) := by decide +kernel
theorem dX7_flaw_77 : decode cX7_flaw 77 = .ok (.ireturn, 1) := by decide +kernel
theorem dX7_holds_0 : decode cX7_holds 0 = .ok (.aload_n 0, 1) := by decide +kernel
theorem dX7_holds_1 : decode cX7_holds 1 = .ok (.getfield 31, 3) := by decide +kernel
theorem dX7_holds_4 : decode cX7_holds 4 = .ok (.iload_n 1, 1) := by decide +kernel
theorem dX7_holds_5 : decode cX7_holds 5 = .ok (.iconst 1, 1) := by decide +kernel
theorem dX7_holds_6 : decode cX7_holds 6 = .ok (.bastore, 1) := by decide +kernel
theorem dX7_holds_7 : decode cX7_holds 7 = .ok (.aload_n 0, 1) := by decide +kernel
theorem dX7_holds_8 : decode cX7_holds 8 = .ok (.iload_n 1, 1) := by decide +kernel
theorem dX7_holds_9 : decode cX7_holds 9 = .ok (.invokevirtual 135, 3) := by decide +kernel
theorem dX7_holds_12 : decode cX7_holds 12 = .ok (.return_, 1) := by decide +kernel
theorem dX7_look_0 : decode cX7_look 0 = .ok (.aload_n 0, 1) := by decide +kernel
theorem dX7_look_1 : decode cX7_look 1 = .ok (.aload_n 0, 1) := by decide +kernel
theorem dX7_look_2 : decode cX7_look 2 = .ok (.iload_n 1, 1) := by decide +kernel
theorem dX7_look_3 : decode cX7_look 3 = .ok (.invokevirtual 109, 3) := by decide +kernel
theorem dX7_look_6 : decode cX7_look 6 = .ok (.ifCond .ne 7, 3) := by decide +kernel
theorem dX7_look_9 : decode cX7_look 9 = .ok (.iconst 1, 1) := by decide +kernel
theorem dX7_look_10 : decode cX7_look 10 = .ok (.goto 41, 3) := by decide +kernel
theorem dX7_look_13 : decode cX7_look 13 = .ok (.aload_n 0, 1) := by decide +kernel
theorem dX7_look_14 : decode cX7_look 14 = .ok (.getfield 19, 3) := by decide +kernel
theorem dX7_look_17 : decode cX7_look 17 = .ok (.iload_n 1, 1) := by decide +kernel
theorem dX7_look_18 : decode cX7_look 18 = .ok (.iaload, 1) := by decide +kernel
theorem dX7_look_19 : decode cX7_look 19 = .ok (.bipush (-2), 2) := by decide +kernel
theorem dX7_look_21 : decode cX7_look 21 = .ok (.if_icmp .eq 25, 3) := by decide +kernel
theorem dX7_look_24 : decode cX7_look 24 = .ok (.aload_n 0, 1) := by decide +kernel
theorem dX7_look_25 : decode cX7_look 25 = .ok (.iload_n 1, 1) := by decide +kernel
theorem dX7_look_26 : decode cX7_look 26 = .ok (.invokevirtual 125, 3) := by decide +kernel
theorem dX7_look_29 : decode cX7_look 29 = .ok (.ifCond .ne 17, 3) := by decide +kernel
theorem dX7_look_32 : decode cX7_look 32 = .ok (.iload_n 2, 1) := by decide +kernel
theorem dX7_look_33 : decode cX7_look 33 = .ok (.ifCond .eq 17, 3) := by decide +kernel
theorem dX7_look_36 : decode cX7_look 36 = .ok (.aload_n 0, 1) := by decide +kernel
theorem dX7_look_37 : decode cX7_look 37 = .ok (.getfield 19, 3) := by decide +kernel
theorem dX7_look_40 : decode cX7_look 40 = .ok (.iload_n 1, 1) := by decide +kernel
theorem dX7_look_41 : decode cX7_look 41 = .ok (.iaload, 1) := by decide +kernel
theorem dX7_look_42 : decode cX7_look 42 = .ok (.iconst (-1), 1) := by decide +kernel
theorem dX7_look_43 : decode cX7_look 43 = .ok (.if_icmp .eq 7, 3) := by decide +kernel
theorem dX7_look_46 : decode cX7_look 46 = .ok (.iconst 2, 1) := by decide +kernel
theorem dX7_look_47 : decode cX7_look 47 = .ok (.goto 4, 3) := by decide +kernel
theorem dX7_look_50 : decode cX7_look 50 = .ok (.iconst 0, 1) := by decide +kernel
theorem dX7_look_51 : decode cX7_look 51 = .ok (.putfield 98, 3) := by decide +kernel
theorem dX7_look_54 : decode cX7_look 54 = .ok (.aload_n 0, 1) := by decide +kernel
theorem dX7_look_55 : decode cX7_look 55 = .ok (.getfield 98, 3) := by decide +kernel
theorem dX7_look_58 : decode cX7_look 58 = .ok (.ifCond .le 5, 3) := by decide +kernel
theorem dX7_look_61 : decode cX7_look 61 = .ok (.iconst 0, 1) := by decide +kernel
theorem dX7_look_62 : decode cX7_look 62 = .ok (.ireturn, 1) := by decide +kernel
theorem dX7_look_63 : decode cX7_look 63 = .ok (.aload_n 0, 1) := by decide +kernel
theorem dX7_look_64 : decode cX7_look 64 = .ok (.getfield 59, 3) := by decide +kernel
theorem dX7_look_67 : decode cX7_look 67 = .ok (.iload_n 1, 1) := by decide +kernel
theorem dX7_look_68 : decode cX7_look 68 = .ok (.iaload, 1) := by decide +kernel
theorem dX7_look_69 : decode cX7_look 69 = .ok (.iload_n 2, 1) := by decide +kernel
theorem dX7_look_70 : decode cX7_look 70 = .ok (.ifCond .eq 7, 3) := by decide +kernel
theorem dX7_look_73 : decode cX7_look 73 = .ok (.iconst 3, 1) := by decide +kernel
theorem dX7_look_74 : decode cX7_look 74 = .ok (.goto 5, 3) := by decide +kernel
theorem dX7_look_77 : decode cX7_look 77 = .ok (.bipush 10, 2) := by decide +kernel
theorem dX7_look_79 : decode cX7_look 79 = .ok (.if_icmp .lt 15, 3) := by decide +kernel
theorem dX7_look_82 : decode cX7_look 82 = .ok (.aload_n 0, 1) := by decide +kernel
theorem dX7_look_83 : decode cX7_look 83 = .ok (.iload_n 1, 1) := by decide +kernel
theorem dX7_look_84 : decode cX7_look 84 = .ok (.invokevirtual 166, 3) := by decide +kernel
theorem dX7_look_87 : decode cX7_look 87 = .ok (.aload_n 0, 1) := by decide +kernel
theorem dX7_look_88 : decode cX7_look 88 = .ok (.getfield 59, 3) := by decide +kernel
theorem dX7_look_91 : decode cX7_look 91 = .ok (.iload_n 1, 1) := by decide +kernel
theorem dX7_look_92 : decode cX7_look 92 = .ok (.iaload, 1) := by decide +kernel
theorem dX7_look_93 : decode cX7_look 93 = .ok (.ireturn, 1) := by decide +kernel
theorem dX7_look_94 : decode cX7_look 94 = .ok (.aload_n 0, 1) := by decide +kernel
theorem dX7_look_95 : decode cX7_look 95 = .ok (.getfield 35, 3) := by decide +kernel
theorem dX7_look_98 : decode cX7_look 98 = .ok (.iload_n 1, 1) := by decide +kernel
theorem dX7_look_99 : decode cX7_look 99 = .ok (.aload_n 0, 1) := by decide +kernel
theorem dX7_look_100 : decode cX7_look 100 = .ok (.getfield 35, 3) := by decide +kernel
theorem dX7_look_103 : decode cX7_look 103 = .ok (.iload_n 1, 1) := by decide +kernel
theorem dX7_look_104 : decode cX7_look 104 = .ok (.baload, 1) := by decide +kernel
theorem dX7_look_105 : decode cX7_look 105 = .ok (.ifCond .eq 11, 3) := by decide +kernel
theorem dX7_look_108 : decode cX7_look 108 = .ok (.iload_n 2, 1) := by decide +kernel
theorem dX7_look_109 : decode cX7_look 109 = .ok (.ifCond .ne 7, 3) := by decide +kernel
theorem dX7_look_112 : decode cX7_look 112 = .ok (.iconst 1, 1) := by decide +kernel
theorem dX7_look_113 : decode cX7_look 113 = .ok (.goto 4, 3) := by decide +kernel
theorem dX7_look_116 : decode cX7_look 116 = .ok (.iconst 0, 1) := by decide +kernel
theorem dX7_look_117 : decode cX7_look 117 = .ok (.bastore, 1) := by decide +kernel
theorem dX7_look_118 : decode cX7_look 118 = .ok (.iconst 0, 1) := by decide +kernel
theorem dX7_look_119 : decode cX7_look 119 = .ok (.ireturn, 1) := by decide +kernel
theorem dX7_clear_0 : decode cX7_clear 0 = .ok (.aload_n 0, 1) := by decide +kernel
theorem dX7_clear_1 : decode cX7_clear 1 = .ok (.aload_n 0, 1) := by decide +kernel
theorem dX7_clear_2 : decode cX7_clear 2 = .ok (.iload_n 1, 1) := by decide +kernel
theorem dX7_clear_3 : decode cX7_clear 3 = .ok (.invokevirtual 109, 3) := by decide +kernel
theorem dX7_clear_6 : decode cX7_clear 6 = .ok (.ifCond .ne 7, 3) := by decide +kernel
theorem dX7_clear_9 : decode cX7_clear 9 = .ok (.iconst 1, 1) := by decide +kernel
theorem dX7_clear_10 : decode cX7_clear 10 = .ok (.goto 25, 3) := by decide +kernel
theorem dX7_clear_13 : decode cX7_clear 13 = .ok (.aload_n 0, 1) := by decide +kernel
theorem dX7_clear_14 : decode cX7_clear 14 = .ok (.getfield 31, 3) := by decide +kernel
theorem dX7_clear_17 : decode cX7_clear 17 = .ok (.iload_n 1, 1) := by decide +kernel
theorem dX7_clear_18 : decode cX7_clear 18 = .ok (.baload, 1) := by decide +kernel
theorem dX7_clear_19 : decode cX7_clear 19 = .ok (.ifCond .eq 11, 3) := by decide +kernel
theorem dX7_clear_22 : decode cX7_clear 22 = .ok (.aload_n 0, 1) := by decide +kernel
theorem dX7_clear_23 : decode cX7_clear 23 = .ok (.iload_n 1, 1) := by decide +kernel
theorem dX7_clear_24 : decode cX7_clear 24 = .ok (.invokevirtual 125, 3) := by decide +kernel
theorem dX7_clear_27 : decode cX7_clear 27 = .ok (.ifCond .eq 7, 3) := by decide +kernel
theorem dX7_clear_30 : decode cX7_clear 30 = .ok (.iconst 2, 1) := by decide +kernel
theorem dX7_clear_31 : decode cX7_clear 31 = .ok (.goto 4, 3) := by decide +kernel
theorem dX7_clear_34 : decode cX7_clear 34 = .ok (.iconst 0, 1) := by decide +kernel
theorem dX7_clear_35 : decode cX7_clear 35 = .ok (.putfield 98, 3) := by decide +kernel
theorem dX7_clear_38 : decode cX7_clear 38 = .ok (.aload_n 0, 1) := by decide +kernel
theorem dX7_clear_39 : decode cX7_clear 39 = .ok (.getfield 98, 3) := by decide +kernel
theorem dX7_clear_42 : decode cX7_clear 42 = .ok (.ifCond .le 5, 3) := by decide +kernel
theorem dX7_clear_45 : decode cX7_clear 45 = .ok (.iconst 0, 1) := by decide +kernel
theorem dX7_clear_46 : decode cX7_clear 46 = .ok (.ireturn, 1) := by decide +kernel
theorem dX7_clear_47 : decode cX7_clear 47 = .ok (.aload_n 0, 1) := by decide +kernel
theorem dX7_clear_48 : decode cX7_clear 48 = .ok (.getfield 59, 3) := by decide +kernel
theorem dX7_clear_51 : decode cX7_clear 51 = .ok (.iload_n 1, 1) := by decide +kernel
theorem dX7_clear_52 : decode cX7_clear 52 = .ok (.iaload, 1) := by decide +kernel
theorem dX7_clear_53 : decode cX7_clear 53 = .ok (.istore_n 2, 1) := by decide +kernel
theorem dX7_clear_54 : decode cX7_clear 54 = .ok (.aload_n 0, 1) := by decide +kernel
theorem dX7_clear_55 : decode cX7_clear 55 = .ok (.getfield 31, 3) := by decide +kernel
theorem dX7_clear_58 : decode cX7_clear 58 = .ok (.iload_n 1, 1) := by decide +kernel
theorem dX7_clear_59 : decode cX7_clear 59 = .ok (.iconst 0, 1) := by decide +kernel
theorem dX7_clear_60 : decode cX7_clear 60 = .ok (.bastore, 1) := by decide +kernel
theorem dX7_clear_61 : decode cX7_clear 61 = .ok (.aload_n 0, 1) := by decide +kernel
theorem dX7_clear_62 : decode cX7_clear 62 = .ok (.getfield 59, 3) := by decide +kernel
theorem dX7_clear_65 : decode cX7_clear 65 = .ok (.iload_n 1, 1) := by decide +kernel
theorem dX7_clear_66 : decode cX7_clear 66 = .ok (.iconst 0, 1) := by decide +kernel
theorem dX7_clear_67 : decode cX7_clear 67 = .ok (.iastore, 1) := by decide +kernel
theorem dX7_clear_68 : decode cX7_clear 68 = .ok (.iload_n 2, 1) := by decide +kernel
theorem dX7_clear_69 : decode cX7_clear 69 = .ok (.ireturn, 1) := by decide +kernel
theorem dX7_recall_0 : decode cX7_recall 0 = .ok (.aload_n 0, 1) := by decide +kernel
theorem dX7_recall_1 : decode cX7_recall 1 = .ok (.iload_n 1, 1) := by decide +kernel
theorem dX7_recall_2 : decode cX7_recall 2 = .ok (.iconst 0, 1) := by decide +kernel
theorem dX7_recall_3 : decode cX7_recall 3 = .ok (.bipush 9, 2) := by decide +kernel
theorem dX7_recall_5 : decode cX7_recall 5 = .ok (.invokestatic 105, 3) := by decide +kernel
theorem dX7_recall_8 : decode cX7_recall 8 = .ok (.ifCond .eq 7, 3) := by decide +kernel
theorem dX7_recall_11 : decode cX7_recall 11 = .ok (.iconst 0, 1) := by decide +kernel
theorem dX7_recall_12 : decode cX7_recall 12 = .ok (.goto 4, 3) := by decide +kernel
theorem dX7_recall_15 : decode cX7_recall 15 = .ok (.iconst 1, 1) := by decide +kernel
theorem dX7_recall_16 : decode cX7_recall 16 = .ok (.putfield 98, 3) := by decide +kernel
theorem dX7_recall_19 : decode cX7_recall 19 = .ok (.iconst 0, 1) := by decide +kernel
theorem dX7_recall_20 : decode cX7_recall 20 = .ok (.istore_n 2, 1) := by decide +kernel
theorem dX7_recall_21 : decode cX7_recall 21 = .ok (.iconst 0, 1) := by decide +kernel
theorem dX7_recall_22 : decode cX7_recall 22 = .ok (.istore_n 3, 1) := by decide +kernel
theorem dX7_recall_23 : decode cX7_recall 23 = .ok (.iload_n 3, 1) := by decide +kernel
theorem dX7_recall_24 : decode cX7_recall 24 = .ok (.aload_n 0, 1) := by decide +kernel
theorem dX7_recall_25 : decode cX7_recall 25 = .ok (.getfield 102, 3) := by decide +kernel
theorem dX7_recall_28 : decode cX7_recall 28 = .ok (.if_icmp .ge 61, 3) := by decide +kernel
theorem dX7_recall_31 : decode cX7_recall 31 = .ok (.aload_n 0, 1) := by decide +kernel
theorem dX7_recall_32 : decode cX7_recall 32 = .ok (.getfield 98, 3) := by decide +kernel
theorem dX7_recall_35 : decode cX7_recall 35 = .ok (.ifCond .ne 54, 3) := by decide +kernel
theorem dX7_recall_38 : decode cX7_recall 38 = .ok (.aload_n 0, 1) := by decide +kernel
theorem dX7_recall_39 : decode cX7_recall 39 = .ok (.getfield 13, 3) := by decide +kernel
theorem dX7_recall_42 : decode cX7_recall 42 = .ok (.iload_n 3, 1) := by decide +kernel
theorem dX7_recall_43 : decode cX7_recall 43 = .ok (.iaload, 1) := by decide +kernel
theorem dX7_recall_44 : decode cX7_recall 44 = .ok (.iload_n 1, 1) := by decide +kernel
theorem dX7_recall_45 : decode cX7_recall 45 = .ok (.if_icmp .ne 38, 3) := by decide +kernel
theorem dX7_recall_48 : decode cX7_recall 48 = .ok (.aload_n 0, 1) := by decide +kernel
theorem dX7_recall_49 : decode cX7_recall 49 = .ok (.getfield 19, 3) := by decide +kernel
theorem dX7_recall_52 : decode cX7_recall 52 = .ok (.iload_n 3, 1) := by decide +kernel
theorem dX7_recall_53 : decode cX7_recall 53 = .ok (.iaload, 1) := by decide +kernel
theorem dX7_recall_54 : decode cX7_recall 54 = .ok (.bipush (-2), 2) := by decide +kernel
theorem dX7_recall_56 : decode cX7_recall 56 = .ok (.if_icmp .eq 27, 3) := by decide +kernel
theorem dX7_recall_59 : decode cX7_recall 59 = .ok (.aload_n 0, 1) := by decide +kernel
theorem dX7_recall_60 : decode cX7_recall 60 = .ok (.getfield 35, 3) := by decide +kernel
theorem dX7_recall_63 : decode cX7_recall 63 = .ok (.iload_n 3, 1) := by decide +kernel
theorem dX7_recall_64 : decode cX7_recall 64 = .ok (.baload, 1) := by decide +kernel
theorem dX7_recall_65 : decode cX7_recall 65 = .ok (.ifCond .ne 18, 3) := by decide +kernel
theorem dX7_recall_68 : decode cX7_recall 68 = .ok (.aload_n 0, 1) := by decide +kernel
theorem dX7_recall_69 : decode cX7_recall 69 = .ok (.getfield 35, 3) := by decide +kernel
theorem dX7_recall_72 : decode cX7_recall 72 = .ok (.iload_n 3, 1) := by decide +kernel
theorem dX7_recall_73 : decode cX7_recall 73 = .ok (.iconst 1, 1) := by decide +kernel
theorem dX7_recall_74 : decode cX7_recall 74 = .ok (.bastore, 1) := by decide +kernel
theorem dX7_recall_75 : decode cX7_recall 75 = .ok (.aload_n 0, 1) := by decide +kernel
theorem dX7_recall_76 : decode cX7_recall 76 = .ok (.iload_n 3, 1) := by decide +kernel
theorem dX7_recall_77 : decode cX7_recall 77 = .ok (.invokevirtual 135, 3) := by decide +kernel
theorem dX7_recall_80 : decode cX7_recall 80 = .ok (.iinc 2 1, 3) := by decide +kernel
theorem dX7_recall_83 : decode cX7_recall 83 = .ok (.iinc 3 1, 3) := by decide +kernel
theorem dX7_recall_86 : decode cX7_recall 86 = .ok (.goto (-63), 3) := by decide +kernel
theorem dX7_recall_89 : decode cX7_recall 89 = .ok (.iload_n 2, 1) := by decide +kernel
theorem dX7_recall_90 : decode cX7_recall 90 = .ok (.ireturn, 1) := by decide +kernel
theorem dX7_hasEmpty_0 : decode cX7_hasEmpty 0 = .ok (.aload_n 0, 1) := by decide +kernel
theorem dX7_hasEmpty_1 : decode cX7_hasEmpty 1 = .ok (.getfield 7, 3) := by decide +kernel
theorem dX7_hasEmpty_4 : decode cX7_hasEmpty 4 = .ok (.iload_n 1, 1) := by decide +kernel
theorem dX7_hasEmpty_5 : decode cX7_hasEmpty 5 = .ok (.iaload, 1) := by decide +kernel
theorem dX7_hasEmpty_6 : decode cX7_hasEmpty 6 = .ok (.iconst 2, 1) := by decide +kernel
theorem dX7_hasEmpty_7 : decode cX7_hasEmpty 7 = .ok (.if_icmp .ne 19, 3) := by decide +kernel
theorem dX7_hasEmpty_10 : decode cX7_hasEmpty 10 = .ok (.aload_n 0, 1) := by decide +kernel
theorem dX7_hasEmpty_11 : decode cX7_hasEmpty 11 = .ok (.iload_n 1, 1) := by decide +kernel
theorem dX7_hasEmpty_12 : decode cX7_hasEmpty 12 = .ok (.iconst (-1), 1) := by decide +kernel
theorem dX7_hasEmpty_13 : decode cX7_hasEmpty 13 = .ok (.invokevirtual 128, 3) := by decide +kernel
theorem dX7_hasEmpty_16 : decode cX7_hasEmpty 16 = .ok (.iconst 3, 1) := by decide +kernel
theorem dX7_hasEmpty_17 : decode cX7_hasEmpty 17 = .ok (.if_icmp .ge 7, 3) := by decide +kernel
theorem dX7_hasEmpty_20 : decode cX7_hasEmpty 20 = .ok (.iconst 1, 1) := by decide +kernel
theorem dX7_hasEmpty_21 : decode cX7_hasEmpty 21 = .ok (.goto 4, 3) := by decide +kernel
theorem dX7_hasEmpty_24 : decode cX7_hasEmpty 24 = .ok (.iconst 0, 1) := by decide +kernel
theorem dX7_hasEmpty_25 : decode cX7_hasEmpty 25 = .ok (.ireturn, 1) := by decide +kernel
theorem dX7_hasEmpty_26 : decode cX7_hasEmpty 26 = .ok (.aload_n 0, 1) := by decide +kernel
theorem dX7_hasEmpty_27 : decode cX7_hasEmpty 27 = .ok (.getfield 7, 3) := by decide +kernel
theorem dX7_hasEmpty_30 : decode cX7_hasEmpty 30 = .ok (.iload_n 1, 1) := by decide +kernel
theorem dX7_hasEmpty_31 : decode cX7_hasEmpty 31 = .ok (.iaload, 1) := by decide +kernel
theorem dX7_hasEmpty_32 : decode cX7_hasEmpty 32 = .ok (.iconst 2, 1) := by decide +kernel
theorem dX7_hasEmpty_33 : decode cX7_hasEmpty 33 = .ok (.if_icmp .ge 17, 3) := by decide +kernel
theorem dX7_hasEmpty_36 : decode cX7_hasEmpty 36 = .ok (.aload_n 0, 1) := by decide +kernel
theorem dX7_hasEmpty_37 : decode cX7_hasEmpty 37 = .ok (.iload_n 1, 1) := by decide +kernel
theorem dX7_hasEmpty_38 : decode cX7_hasEmpty 38 = .ok (.iconst (-1), 1) := by decide +kernel
theorem dX7_hasEmpty_39 : decode cX7_hasEmpty 39 = .ok (.invokevirtual 128, 3) := by decide +kernel
theorem dX7_hasEmpty_42 : decode cX7_hasEmpty 42 = .ok (.iconst 2, 1) := by decide +kernel
theorem dX7_hasEmpty_43 : decode cX7_hasEmpty 43 = .ok (.if_icmp .ge 7, 3) := by decide +kernel
theorem dX7_hasEmpty_46 : decode cX7_hasEmpty 46 = .ok (.iconst 1, 1) := by decide +kernel
theorem dX7_hasEmpty_47 : decode cX7_hasEmpty 47 = .ok (.goto 4, 3) := by decide +kernel
theorem dX7_hasEmpty_50 : decode cX7_hasEmpty 50 = .ok (.iconst 0, 1) := by decide +kernel
theorem dX7_hasEmpty_51 : decode cX7_hasEmpty 51 = .ok (.ireturn, 1) := by decide +kernel
theorem dX7_isWorn_0 : decode cX7_isWorn 0 = .ok (.aload_n 0, 1) := by decide +kernel
theorem dX7_isWorn_1 : decode cX7_isWorn 1 = .ok (.getfield 7, 3) := by decide +kernel
theorem dX7_isWorn_4 : decode cX7_isWorn 4 = .ok (.iload_n 1, 1) := by decide +kernel
theorem dX7_isWorn_5 : decode cX7_isWorn 5 = .ok (.iaload, 1) := by decide +kernel
theorem dX7_isWorn_6 : decode cX7_isWorn 6 = .ok (.iconst 3, 1) := by decide +kernel
theorem dX7_isWorn_7 : decode cX7_isWorn 7 = .ok (.if_icmp .ne 31, 3) := by decide +kernel
theorem dX7_isWorn_10 : decode cX7_isWorn 10 = .ok (.aload_n 0, 1) := by decide +kernel
theorem dX7_isWorn_11 : decode cX7_isWorn 11 = .ok (.getfield 44, 3) := by decide +kernel
theorem dX7_isWorn_14 : decode cX7_isWorn 14 = .ok (.iload_n 1, 1) := by decide +kernel
theorem dX7_isWorn_15 : decode cX7_isWorn 15 = .ok (.iaload, 1) := by decide +kernel
theorem dX7_isWorn_16 : decode cX7_isWorn 16 = .ok (.sipush 8500, 3) := by decide +kernel
theorem dX7_isWorn_19 : decode cX7_isWorn 19 = .ok (.if_icmp .lt 15, 3) := by decide +kernel
theorem dX7_isWorn_22 : decode cX7_isWorn 22 = .ok (.aload_n 0, 1) := by decide +kernel
theorem dX7_isWorn_23 : decode cX7_isWorn 23 = .ok (.getfield 47, 3) := by decide +kernel
theorem dX7_isWorn_26 : decode cX7_isWorn 26 = .ok (.iload_n 1, 1) := by decide +kernel
theorem dX7_isWorn_27 : decode cX7_isWorn 27 = .ok (.iaload, 1) := by decide +kernel
theorem dX7_isWorn_28 : decode cX7_isWorn 28 = .ok (.sipush 250, 3) := by decide +kernel
theorem dX7_isWorn_31 : decode cX7_isWorn 31 = .ok (.if_icmp .ge 7, 3) := by decide +kernel
theorem dX7_isWorn_34 : decode cX7_isWorn 34 = .ok (.iconst 1, 1) := by decide +kernel
theorem dX7_isWorn_35 : decode cX7_isWorn 35 = .ok (.goto 4, 3) := by decide +kernel
theorem dX7_isWorn_38 : decode cX7_isWorn 38 = .ok (.iconst 0, 1) := by decide +kernel
theorem dX7_isWorn_39 : decode cX7_isWorn 39 = .ok (.ireturn, 1) := by decide +kernel
theorem dX7_apartIn_0 : decode cX7_apartIn 0 = .ok (.ldc 169, 2) := by decide +kernel
theorem dX7_apartIn_2 : decode cX7_apartIn 2 = .ok (.istore_n 2, 1) := by decide +kernel
theorem dX7_apartIn_3 : decode cX7_apartIn 3 = .ok (.ldc 170, 2) := by decide +kernel
theorem dX7_apartIn_5 : decode cX7_apartIn 5 = .ok (.istore_n 3, 1) := by decide +kernel
theorem dX7_apartIn_6 : decode cX7_apartIn 6 = .ok (.iconst 0, 1) := by decide +kernel
theorem dX7_apartIn_7 : decode cX7_apartIn 7 = .ok (.istore 4, 2) := by decide +kernel
theorem dX7_apartIn_9 : decode cX7_apartIn 9 = .ok (.iload 4, 2) := by decide +kernel
theorem dX7_apartIn_11 : decode cX7_apartIn 11 = .ok (.aload_n 0, 1) := by decide +kernel
theorem dX7_apartIn_12 : decode cX7_apartIn 12 = .ok (.getfield 102, 3) := by decide +kernel
theorem dX7_apartIn_15 : decode cX7_apartIn 15 = .ok (.if_icmp .ge 120, 3) := by decide +kernel
theorem dX7_apartIn_18 : decode cX7_apartIn 18 = .ok (.aload_n 0, 1) := by decide +kernel
theorem dX7_apartIn_19 : decode cX7_apartIn 19 = .ok (.getfield 7, 3) := by decide +kernel
theorem dX7_apartIn_22 : decode cX7_apartIn 22 = .ok (.iload 4, 2) := by decide +kernel
theorem dX7_apartIn_24 : decode cX7_apartIn 24 = .ok (.iaload, 1) := by decide +kernel
theorem dX7_apartIn_25 : decode cX7_apartIn 25 = .ok (.iconst 3, 1) := by decide +kernel
theorem dX7_apartIn_26 : decode cX7_apartIn 26 = .ok (.if_icmp .ne 44, 3) := by decide +kernel
theorem dX7_apartIn_29 : decode cX7_apartIn 29 = .ok (.aload_n 0, 1) := by decide +kernel
theorem dX7_apartIn_30 : decode cX7_apartIn 30 = .ok (.getfield 19, 3) := by decide +kernel
theorem dX7_apartIn_33 : decode cX7_apartIn 33 = .ok (.iload 4, 2) := by decide +kernel
theorem dX7_apartIn_35 : decode cX7_apartIn 35 = .ok (.iaload, 1) := by decide +kernel
theorem dX7_apartIn_36 : decode cX7_apartIn 36 = .ok (.ifCond .lt 34, 3) := by decide +kernel
theorem dX7_apartIn_39 : decode cX7_apartIn 39 = .ok (.aload_n 0, 1) := by decide +kernel
theorem dX7_apartIn_40 : decode cX7_apartIn 40 = .ok (.getfield 19, 3) := by decide +kernel
theorem dX7_apartIn_43 : decode cX7_apartIn 43 = .ok (.iload 4, 2) := by decide +kernel
theorem dX7_apartIn_45 : decode cX7_apartIn 45 = .ok (.iaload, 1) := by decide +kernel
theorem dX7_apartIn_46 : decode cX7_apartIn 46 = .ok (.iload_n 1, 1) := by decide +kernel
theorem dX7_apartIn_47 : decode cX7_apartIn 47 = .ok (.if_icmp .eq 19, 3) := by decide +kernel
theorem dX7_apartIn_50 : decode cX7_apartIn 50 = .ok (.aload_n 0, 1) := by decide +kernel
theorem dX7_apartIn_51 : decode cX7_apartIn 51 = .ok (.getfield 19, 3) := by decide +kernel
theorem dX7_apartIn_54 : decode cX7_apartIn 54 = .ok (.aload_n 0, 1) := by decide +kernel
theorem dX7_apartIn_55 : decode cX7_apartIn 55 = .ok (.getfield 19, 3) := by decide +kernel
theorem dX7_apartIn_58 : decode cX7_apartIn 58 = .ok (.iload 4, 2) := by decide +kernel
theorem dX7_apartIn_60 : decode cX7_apartIn 60 = .ok (.iaload, 1) := by decide +kernel
theorem dX7_apartIn_61 : decode cX7_apartIn 61 = .ok (.iaload, 1) := by decide +kernel
theorem dX7_apartIn_62 : decode cX7_apartIn 62 = .ok (.iload_n 1, 1) := by decide +kernel
theorem dX7_apartIn_63 : decode cX7_apartIn 63 = .ok (.if_icmp .ne 7, 3) := by decide +kernel
theorem dX7_apartIn_66 : decode cX7_apartIn 66 = .ok (.iconst 1, 1) := by decide +kernel
theorem dX7_apartIn_67 : decode cX7_apartIn 67 = .ok (.goto 4, 3) := by decide +kernel
theorem dX7_apartIn_70 : decode cX7_apartIn 70 = .ok (.iconst 0, 1) := by decide +kernel
theorem dX7_apartIn_71 : decode cX7_apartIn 71 = .ok (.istore 5, 2) := by decide +kernel
theorem dX7_apartIn_73 : decode cX7_apartIn 73 = .ok (.iload 5, 2) := by decide +kernel
theorem dX7_apartIn_75 : decode cX7_apartIn 75 = .ok (.ifCond .eq 24, 3) := by decide +kernel
theorem dX7_apartIn_78 : decode cX7_apartIn 78 = .ok (.aload_n 0, 1) := by decide +kernel
theorem dX7_apartIn_79 : decode cX7_apartIn 79 = .ok (.getfield 44, 3) := by decide +kernel
theorem dX7_apartIn_82 : decode cX7_apartIn 82 = .ok (.iload 4, 2) := by decide +kernel
theorem dX7_apartIn_84 : decode cX7_apartIn 84 = .ok (.iaload, 1) := by decide +kernel
theorem dX7_apartIn_85 : decode cX7_apartIn 85 = .ok (.iload_n 2, 1) := by decide +kernel
theorem dX7_apartIn_86 : decode cX7_apartIn 86 = .ok (.if_icmp .ge 13, 3) := by decide +kernel
theorem dX7_apartIn_89 : decode cX7_apartIn 89 = .ok (.aload_n 0, 1) := by decide +kernel
theorem dX7_apartIn_90 : decode cX7_apartIn 90 = .ok (.getfield 44, 3) := by decide +kernel
theorem dX7_apartIn_93 : decode cX7_apartIn 93 = .ok (.iload 4, 2) := by decide +kernel
theorem dX7_apartIn_95 : decode cX7_apartIn 95 = .ok (.iaload, 1) := by decide +kernel
theorem dX7_apartIn_96 : decode cX7_apartIn 96 = .ok (.goto 4, 3) := by decide +kernel
theorem dX7_apartIn_99 : decode cX7_apartIn 99 = .ok (.iload_n 2, 1) := by decide +kernel
theorem dX7_apartIn_100 : decode cX7_apartIn 100 = .ok (.istore_n 2, 1) := by decide +kernel
theorem dX7_apartIn_101 : decode cX7_apartIn 101 = .ok (.iload 5, 2) := by decide +kernel
theorem dX7_apartIn_103 : decode cX7_apartIn 103 = .ok (.ifCond .eq 24, 3) := by decide +kernel
theorem dX7_apartIn_106 : decode cX7_apartIn 106 = .ok (.aload_n 0, 1) := by decide +kernel
theorem dX7_apartIn_107 : decode cX7_apartIn 107 = .ok (.getfield 44, 3) := by decide +kernel
theorem dX7_apartIn_110 : decode cX7_apartIn 110 = .ok (.iload 4, 2) := by decide +kernel
theorem dX7_apartIn_112 : decode cX7_apartIn 112 = .ok (.iaload, 1) := by decide +kernel
theorem dX7_apartIn_113 : decode cX7_apartIn 113 = .ok (.iload_n 3, 1) := by decide +kernel
theorem dX7_apartIn_114 : decode cX7_apartIn 114 = .ok (.if_icmp .le 13, 3) := by decide +kernel
theorem dX7_apartIn_117 : decode cX7_apartIn 117 = .ok (.aload_n 0, 1) := by decide +kernel
theorem dX7_apartIn_118 : decode cX7_apartIn 118 = .ok (.getfield 44, 3) := by decide +kernel
theorem dX7_apartIn_121 : decode cX7_apartIn 121 = .ok (.iload 4, 2) := by decide +kernel
theorem dX7_apartIn_123 : decode cX7_apartIn 123 = .ok (.iaload, 1) := by decide +kernel
theorem dX7_apartIn_124 : decode cX7_apartIn 124 = .ok (.goto 4, 3) := by decide +kernel
theorem dX7_apartIn_127 : decode cX7_apartIn 127 = .ok (.iload_n 3, 1) := by decide +kernel
theorem dX7_apartIn_128 : decode cX7_apartIn 128 = .ok (.istore_n 3, 1) := by decide +kernel
theorem dX7_apartIn_129 : decode cX7_apartIn 129 = .ok (.iinc 4 1, 3) := by decide +kernel
theorem dX7_apartIn_132 : decode cX7_apartIn 132 = .ok (.goto (-123), 3) := by decide +kernel
theorem dX7_apartIn_135 : decode cX7_apartIn 135 = .ok (.iload_n 3, 1) := by decide +kernel
theorem dX7_apartIn_136 : decode cX7_apartIn 136 = .ok (.iload_n 2, 1) := by decide +kernel
theorem dX7_apartIn_137 : decode cX7_apartIn 137 = .ok (.isub, 1) := by decide +kernel
theorem dX7_apartIn_138 : decode cX7_apartIn 138 = .ok (.ireturn, 1) := by decide +kernel
theorem dX7_isDue_0 : decode cX7_isDue 0 = .ok (.aload_n 0, 1) := by decide +kernel
theorem dX7_isDue_1 : decode cX7_isDue 1 = .ok (.getfield 68, 3) := by decide +kernel
theorem dX7_isDue_4 : decode cX7_isDue 4 = .ok (.aload_n 0, 1) := by decide +kernel
theorem dX7_isDue_5 : decode cX7_isDue 5 = .ok (.getfield 7, 3) := by decide +kernel
theorem dX7_isDue_8 : decode cX7_isDue 8 = .ok (.iload_n 1, 1) := by decide +kernel
theorem dX7_isDue_9 : decode cX7_isDue 9 = .ok (.iaload, 1) := by decide +kernel
theorem dX7_isDue_10 : decode cX7_isDue 10 = .ok (.iaload, 1) := by decide +kernel
theorem dX7_isDue_11 : decode cX7_isDue 11 = .ok (.istore_n 2, 1) := by decide +kernel
theorem dX7_isDue_12 : decode cX7_isDue 12 = .ok (.iload_n 2, 1) := by decide +kernel
theorem dX7_isDue_13 : decode cX7_isDue 13 = .ok (.ifCond .le 24, 3) := by decide +kernel
theorem dX7_isDue_16 : decode cX7_isDue 16 = .ok (.aload_n 0, 1) := by decide +kernel
theorem dX7_isDue_17 : decode cX7_isDue 17 = .ok (.getfield 25, 3) := by decide +kernel
theorem dX7_isDue_20 : decode cX7_isDue 20 = .ok (.iload_n 1, 1) := by decide +kernel
theorem dX7_isDue_21 : decode cX7_isDue 21 = .ok (.iaload, 1) := by decide +kernel
theorem dX7_isDue_22 : decode cX7_isDue 22 = .ok (.iload_n 2, 1) := by decide +kernel
theorem dX7_isDue_23 : decode cX7_isDue 23 = .ok (.aload_n 0, 1) := by decide +kernel
theorem dX7_isDue_24 : decode cX7_isDue 24 = .ok (.getfield 28, 3) := by decide +kernel
theorem dX7_isDue_27 : decode cX7_isDue 27 = .ok (.iload_n 1, 1) := by decide +kernel
theorem dX7_isDue_28 : decode cX7_isDue 28 = .ok (.iaload, 1) := by decide +kernel
theorem dX7_isDue_29 : decode cX7_isDue 29 = .ok (.iadd, 1) := by decide +kernel
theorem dX7_isDue_30 : decode cX7_isDue 30 = .ok (.if_icmp .le 7, 3) := by decide +kernel
theorem dX7_isDue_33 : decode cX7_isDue 33 = .ok (.iconst 1, 1) := by decide +kernel
theorem dX7_isDue_34 : decode cX7_isDue 34 = .ok (.goto 4, 3) := by decide +kernel
theorem dX7_isDue_37 : decode cX7_isDue 37 = .ok (.iconst 0, 1) := by decide +kernel
theorem dX7_isDue_38 : decode cX7_isDue 38 = .ok (.ireturn, 1) := by decide +kernel
theorem dX7_barsBy_0 : decode cX7_barsBy 0 = .ok (.iload_n 2, 1) := by decide +kernel
theorem dX7_barsBy_1 : decode cX7_barsBy 1 = .ok (.tableswitch 151 1 6 #[39, 45, 52, 59, 99, 105], 39) := by decide +kernel
theorem dX7_barsBy_40 : decode cX7_barsBy 40 = .ok (.aload_n 0, 1) := by decide +kernel
theorem dX7_barsBy_41 : decode cX7_barsBy 41 = .ok (.iload_n 1, 1) := by decide +kernel
theorem dX7_barsBy_42 : decode cX7_barsBy 42 = .ok (.invokevirtual 171, 3) := by decide +kernel
theorem dX7_barsBy_45 : decode cX7_barsBy 45 = .ok (.ireturn, 1) := by decide +kernel
theorem dX7_barsBy_46 : decode cX7_barsBy 46 = .ok (.aload_n 0, 1) := by decide +kernel
theorem dX7_barsBy_47 : decode cX7_barsBy 47 = .ok (.getfield 31, 3) := by decide +kernel
theorem dX7_barsBy_50 : decode cX7_barsBy 50 = .ok (.iload_n 1, 1) := by decide +kernel
theorem dX7_barsBy_51 : decode cX7_barsBy 51 = .ok (.baload, 1) := by decide +kernel
theorem dX7_barsBy_52 : decode cX7_barsBy 52 = .ok (.ireturn, 1) := by decide +kernel
theorem dX7_barsBy_53 : decode cX7_barsBy 53 = .ok (.aload_n 0, 1) := by decide +kernel
theorem dX7_barsBy_54 : decode cX7_barsBy 54 = .ok (.getfield 35, 3) := by decide +kernel
theorem dX7_barsBy_57 : decode cX7_barsBy 57 = .ok (.iload_n 1, 1) := by decide +kernel
theorem dX7_barsBy_58 : decode cX7_barsBy 58 = .ok (.baload, 1) := by decide +kernel
theorem dX7_barsBy_59 : decode cX7_barsBy 59 = .ok (.ireturn, 1) := by decide +kernel
theorem dX7_barsBy_60 : decode cX7_barsBy 60 = .ok (.aload_n 0, 1) := by decide +kernel
theorem dX7_barsBy_61 : decode cX7_barsBy 61 = .ok (.getfield 65, 3) := by decide +kernel
theorem dX7_barsBy_64 : decode cX7_barsBy 64 = .ok (.aload_n 0, 1) := by decide +kernel
theorem dX7_barsBy_65 : decode cX7_barsBy 65 = .ok (.getfield 7, 3) := by decide +kernel
theorem dX7_barsBy_68 : decode cX7_barsBy 68 = .ok (.iload_n 1, 1) := by decide +kernel
theorem dX7_barsBy_69 : decode cX7_barsBy 69 = .ok (.iaload, 1) := by decide +kernel
theorem dX7_barsBy_70 : decode cX7_barsBy 70 = .ok (.iaload, 1) := by decide +kernel
theorem dX7_barsBy_71 : decode cX7_barsBy 71 = .ok (.ifCond .le 27, 3) := by decide +kernel
theorem dX7_barsBy_74 : decode cX7_barsBy 74 = .ok (.aload_n 0, 1) := by decide +kernel
theorem dX7_barsBy_75 : decode cX7_barsBy 75 = .ok (.getfield 22, 3) := by decide +kernel
theorem dX7_barsBy_78 : decode cX7_barsBy 78 = .ok (.iload_n 1, 1) := by decide +kernel
theorem dX7_barsBy_79 : decode cX7_barsBy 79 = .ok (.iaload, 1) := by decide +kernel
theorem dX7_barsBy_80 : decode cX7_barsBy 80 = .ok (.aload_n 0, 1) := by decide +kernel
theorem dX7_barsBy_81 : decode cX7_barsBy 81 = .ok (.getfield 65, 3) := by decide +kernel
theorem dX7_barsBy_84 : decode cX7_barsBy 84 = .ok (.aload_n 0, 1) := by decide +kernel
theorem dX7_barsBy_85 : decode cX7_barsBy 85 = .ok (.getfield 7, 3) := by decide +kernel
theorem dX7_barsBy_88 : decode cX7_barsBy 88 = .ok (.iload_n 1, 1) := by decide +kernel
theorem dX7_barsBy_89 : decode cX7_barsBy 89 = .ok (.iaload, 1) := by decide +kernel
theorem dX7_barsBy_90 : decode cX7_barsBy 90 = .ok (.iaload, 1) := by decide +kernel
theorem dX7_barsBy_91 : decode cX7_barsBy 91 = .ok (.if_icmp .le 7, 3) := by decide +kernel
theorem dX7_barsBy_94 : decode cX7_barsBy 94 = .ok (.iconst 1, 1) := by decide +kernel
theorem dX7_barsBy_95 : decode cX7_barsBy 95 = .ok (.goto 4, 3) := by decide +kernel
theorem dX7_barsBy_98 : decode cX7_barsBy 98 = .ok (.iconst 0, 1) := by decide +kernel
theorem dX7_barsBy_99 : decode cX7_barsBy 99 = .ok (.ireturn, 1) := by decide +kernel
theorem dX7_barsBy_100 : decode cX7_barsBy 100 = .ok (.aload_n 0, 1) := by decide +kernel
theorem dX7_barsBy_101 : decode cX7_barsBy 101 = .ok (.iload_n 1, 1) := by decide +kernel
theorem dX7_barsBy_102 : decode cX7_barsBy 102 = .ok (.invokevirtual 174, 3) := by decide +kernel
theorem dX7_barsBy_105 : decode cX7_barsBy 105 = .ok (.ireturn, 1) := by decide +kernel
theorem dX7_barsBy_106 : decode cX7_barsBy 106 = .ok (.aload_n 0, 1) := by decide +kernel
theorem dX7_barsBy_107 : decode cX7_barsBy 107 = .ok (.getfield 7, 3) := by decide +kernel
theorem dX7_barsBy_110 : decode cX7_barsBy 110 = .ok (.iload_n 1, 1) := by decide +kernel
theorem dX7_barsBy_111 : decode cX7_barsBy 111 = .ok (.iaload, 1) := by decide +kernel
theorem dX7_barsBy_112 : decode cX7_barsBy 112 = .ok (.iconst 2, 1) := by decide +kernel
theorem dX7_barsBy_113 : decode cX7_barsBy 113 = .ok (.if_icmp .ne 13, 3) := by decide +kernel
theorem dX7_barsBy_116 : decode cX7_barsBy 116 = .ok (.aload_n 0, 1) := by decide +kernel
theorem dX7_barsBy_117 : decode cX7_barsBy 117 = .ok (.iload_n 1, 1) := by decide +kernel
theorem dX7_barsBy_118 : decode cX7_barsBy 118 = .ok (.invokevirtual 177, 3) := by decide +kernel
theorem dX7_barsBy_121 : decode cX7_barsBy 121 = .ok (.bipush 20, 2) := by decide +kernel
theorem dX7_barsBy_123 : decode cX7_barsBy 123 = .ok (.if_icmp .gt 23, 3) := by decide +kernel
theorem dX7_barsBy_126 : decode cX7_barsBy 126 = .ok (.aload_n 0, 1) := by decide +kernel
theorem dX7_barsBy_127 : decode cX7_barsBy 127 = .ok (.getfield 7, 3) := by decide +kernel
theorem dX7_barsBy_130 : decode cX7_barsBy 130 = .ok (.iload_n 1, 1) := by decide +kernel
theorem dX7_barsBy_131 : decode cX7_barsBy 131 = .ok (.iaload, 1) := by decide +kernel
theorem dX7_barsBy_132 : decode cX7_barsBy 132 = .ok (.iconst 1, 1) := by decide +kernel
theorem dX7_barsBy_133 : decode cX7_barsBy 133 = .ok (.if_icmp .ne 17, 3) := by decide +kernel
theorem dX7_barsBy_136 : decode cX7_barsBy 136 = .ok (.aload_n 0, 1) := by decide +kernel
theorem dX7_barsBy_137 : decode cX7_barsBy 137 = .ok (.iload_n 1, 1) := by decide +kernel
theorem dX7_barsBy_138 : decode cX7_barsBy 138 = .ok (.invokevirtual 177, 3) := by decide +kernel
theorem dX7_barsBy_141 : decode cX7_barsBy 141 = .ok (.bipush 60, 2) := by decide +kernel
theorem dX7_barsBy_143 : decode cX7_barsBy 143 = .ok (.if_icmp .le 7, 3) := by decide +kernel
theorem dX7_barsBy_146 : decode cX7_barsBy 146 = .ok (.iconst 1, 1) := by decide +kernel
theorem dX7_barsBy_147 : decode cX7_barsBy 147 = .ok (.goto 4, 3) := by decide +kernel
theorem dX7_barsBy_150 : decode cX7_barsBy 150 = .ok (.iconst 0, 1) := by decide +kernel
theorem dX7_barsBy_151 : decode cX7_barsBy 151 = .ok (.ireturn, 1) := by decide +kernel
theorem dX7_barsBy_152 : decode cX7_barsBy 152 = .ok (.aload_n 0, 1) := by decide +kernel
theorem dX7_barsBy_153 : decode cX7_barsBy 153 = .ok (.iload_n 1, 1) := by decide +kernel
theorem dX7_barsBy_154 : decode cX7_barsBy 154 = .ok (.invokevirtual 180, 3) := by decide +kernel
theorem dX7_barsBy_157 : decode cX7_barsBy 157 = .ok (.ireturn, 1) := by decide +kernel
theorem dX7_barOf_0 : decode cX7_barOf 0 = .ok (.iconst 1, 1) := by decide +kernel
theorem dX7_barOf_1 : decode cX7_barOf 1 = .ok (.istore_n 2, 1) := by decide +kernel
theorem dX7_barOf_2 : decode cX7_barOf 2 = .ok (.iload_n 2, 1) := by decide +kernel
theorem dX7_barOf_3 : decode cX7_barOf 3 = .ok (.bipush 8, 2) := by decide +kernel
theorem dX7_barOf_5 : decode cX7_barOf 5 = .ok (.if_icmp .ge 50, 3) := by decide +kernel
theorem dX7_barOf_8 : decode cX7_barOf 8 = .ok (.iconst 0, 1) := by decide +kernel
theorem dX7_barOf_9 : decode cX7_barOf 9 = .ok (.istore_n 3, 1) := by decide +kernel
theorem dX7_barOf_10 : decode cX7_barOf 10 = .ok (.iload_n 3, 1) := by decide +kernel
theorem dX7_barOf_11 : decode cX7_barOf 11 = .ok (.aload_n 0, 1) := by decide +kernel
theorem dX7_barOf_12 : decode cX7_barOf 12 = .ok (.getfield 102, 3) := by decide +kernel
theorem dX7_barOf_15 : decode cX7_barOf 15 = .ok (.if_icmp .ge 34, 3) := by decide +kernel
theorem dX7_barOf_18 : decode cX7_barOf 18 = .ok (.aload_n 0, 1) := by decide +kernel
theorem dX7_barOf_19 : decode cX7_barOf 19 = .ok (.iload_n 3, 1) := by decide +kernel
theorem dX7_barOf_20 : decode cX7_barOf 20 = .ok (.iload_n 1, 1) := by decide +kernel
theorem dX7_barOf_21 : decode cX7_barOf 21 = .ok (.invokevirtual 151, 3) := by decide +kernel
theorem dX7_barOf_24 : decode cX7_barOf 24 = .ok (.ifCond .eq 19, 3) := by decide +kernel
theorem dX7_barOf_27 : decode cX7_barOf 27 = .ok (.aload_n 0, 1) := by decide +kernel
theorem dX7_barOf_28 : decode cX7_barOf 28 = .ok (.iload_n 3, 1) := by decide +kernel
theorem dX7_barOf_29 : decode cX7_barOf 29 = .ok (.iload_n 2, 1) := by decide +kernel
theorem dX7_barOf_30 : decode cX7_barOf 30 = .ok (.invokevirtual 183, 3) := by decide +kernel
theorem dX7_barOf_33 : decode cX7_barOf 33 = .ok (.ifCond .eq 10, 3) := by decide +kernel
theorem dX7_barOf_36 : decode cX7_barOf 36 = .ok (.bipush 100, 2) := by decide +kernel
theorem dX7_barOf_38 : decode cX7_barOf 38 = .ok (.iload_n 2, 1) := by decide +kernel
theorem dX7_barOf_39 : decode cX7_barOf 39 = .ok (.imul, 1) := by decide +kernel
theorem dX7_barOf_40 : decode cX7_barOf 40 = .ok (.iload_n 3, 1) := by decide +kernel
theorem dX7_barOf_41 : decode cX7_barOf 41 = .ok (.iadd, 1) := by decide +kernel
theorem dX7_barOf_42 : decode cX7_barOf 42 = .ok (.ireturn, 1) := by decide +kernel
theorem dX7_barOf_43 : decode cX7_barOf 43 = .ok (.iinc 3 1, 3) := by decide +kernel
theorem dX7_barOf_46 : decode cX7_barOf 46 = .ok (.goto (-36), 3) := by decide +kernel
theorem dX7_barOf_49 : decode cX7_barOf 49 = .ok (.iinc 2 1, 3) := by decide +kernel
theorem dX7_barOf_52 : decode cX7_barOf 52 = .ok (.goto (-50), 3) := by decide +kernel
theorem dX7_barOf_55 : decode cX7_barOf 55 = .ok (.iconst 0, 1) := by decide +kernel
theorem dX7_barOf_56 : decode cX7_barOf 56 = .ok (.ireturn, 1) := by decide +kernel
theorem dX7_release_0 : decode cX7_release 0 = .ok (.aload_n 0, 1) := by decide +kernel
theorem dX7_release_1 : decode cX7_release 1 = .ok (.aload_n 0, 1) := by decide +kernel
theorem dX7_release_2 : decode cX7_release 2 = .ok (.iload_n 1, 1) := by decide +kernel
theorem dX7_release_3 : decode cX7_release 3 = .ok (.iconst 0, 1) := by decide +kernel
theorem dX7_release_4 : decode cX7_release 4 = .ok (.invokevirtual 148, 3) := by decide +kernel
theorem dX7_release_7 : decode cX7_release 7 = .ok (.putfield 98, 3) := by decide +kernel
theorem dX7_release_10 : decode cX7_release 10 = .ok (.aload_n 0, 1) := by decide +kernel
theorem dX7_release_11 : decode cX7_release 11 = .ok (.getfield 98, 3) := by decide +kernel
theorem dX7_release_14 : decode cX7_release 14 = .ok (.ifCond .le 5, 3) := by decide +kernel
theorem dX7_release_17 : decode cX7_release 17 = .ok (.iconst 0, 1) := by decide +kernel
theorem dX7_release_18 : decode cX7_release 18 = .ok (.ireturn, 1) := by decide +kernel
theorem dX7_release_19 : decode cX7_release 19 = .ok (.aload_n 0, 1) := by decide +kernel
theorem dX7_release_20 : decode cX7_release 20 = .ok (.iload_n 1, 1) := by decide +kernel
theorem dX7_release_21 : decode cX7_release 21 = .ok (.invokevirtual 186, 3) := by decide +kernel
theorem dX7_release_24 : decode cX7_release 24 = .ok (.bipush 100, 2) := by decide +kernel
theorem dX7_release_26 : decode cX7_release 26 = .ok (.idiv, 1) := by decide +kernel
theorem dX7_release_27 : decode cX7_release 27 = .ok (.istore_n 2, 1) := by decide +kernel
theorem dX7_release_28 : decode cX7_release 28 = .ok (.aload_n 0, 1) := by decide +kernel
theorem dX7_release_29 : decode cX7_release 29 = .ok (.getfield 38, 3) := by decide +kernel
theorem dX7_release_32 : decode cX7_release 32 = .ok (.iload_n 1, 1) := by decide +kernel
theorem dX7_release_33 : decode cX7_release 33 = .ok (.iload_n 2, 1) := by decide +kernel
theorem dX7_release_34 : decode cX7_release 34 = .ok (.ifCond .ne 7, 3) := by decide +kernel
theorem dX7_release_37 : decode cX7_release 37 = .ok (.iconst 1, 1) := by decide +kernel
theorem dX7_release_38 : decode cX7_release 38 = .ok (.goto 4, 3) := by decide +kernel
theorem dX7_release_41 : decode cX7_release 41 = .ok (.iconst 0, 1) := by decide +kernel
theorem dX7_release_42 : decode cX7_release 42 = .ok (.bastore, 1) := by decide +kernel
theorem dX7_release_43 : decode cX7_release 43 = .ok (.iload_n 2, 1) := by decide +kernel
theorem dX7_release_44 : decode cX7_release 44 = .ok (.ireturn, 1) := by decide +kernel
theorem dX7_comes_0 : decode cX7_comes 0 = .ok (.aload_n 0, 1) := by decide +kernel
theorem dX7_comes_1 : decode cX7_comes 1 = .ok (.aload_n 0, 1) := by decide +kernel
theorem dX7_comes_2 : decode cX7_comes 2 = .ok (.iload_n 1, 1) := by decide +kernel
theorem dX7_comes_3 : decode cX7_comes 3 = .ok (.iconst 0, 1) := by decide +kernel
theorem dX7_comes_4 : decode cX7_comes 4 = .ok (.invokevirtual 148, 3) := by decide +kernel
theorem dX7_comes_7 : decode cX7_comes 7 = .ok (.putfield 98, 3) := by decide +kernel
theorem dX7_comes_10 : decode cX7_comes 10 = .ok (.aload_n 0, 1) := by decide +kernel
theorem dX7_comes_11 : decode cX7_comes 11 = .ok (.aload_n 0, 1) := by decide +kernel
theorem dX7_comes_12 : decode cX7_comes 12 = .ok (.getfield 98, 3) := by decide +kernel
theorem dX7_comes_15 : decode cX7_comes 15 = .ok (.ifCond .ne 17, 3) := by decide +kernel
theorem dX7_comes_18 : decode cX7_comes 18 = .ok (.iload_n 2, 1) := by decide +kernel
theorem dX7_comes_19 : decode cX7_comes 19 = .ok (.iconst 0, 1) := by decide +kernel
theorem dX7_comes_20 : decode cX7_comes 20 = .ok (.bipush 99, 2) := by decide +kernel
theorem dX7_comes_22 : decode cX7_comes 22 = .ok (.invokestatic 105, 3) := by decide +kernel
theorem dX7_comes_25 : decode cX7_comes 25 = .ok (.ifCond .ne 7, 3) := by decide +kernel
theorem dX7_comes_28 : decode cX7_comes 28 = .ok (.iconst 2, 1) := by decide +kernel
theorem dX7_comes_29 : decode cX7_comes 29 = .ok (.goto 7, 3) := by decide +kernel
theorem dX7_comes_32 : decode cX7_comes 32 = .ok (.aload_n 0, 1) := by decide +kernel
theorem dX7_comes_33 : decode cX7_comes 33 = .ok (.getfield 98, 3) := by decide +kernel
theorem dX7_comes_36 : decode cX7_comes 36 = .ok (.putfield 98, 3) := by decide +kernel
theorem dX7_comes_39 : decode cX7_comes 39 = .ok (.aload_n 0, 1) := by decide +kernel
theorem dX7_comes_40 : decode cX7_comes 40 = .ok (.getfield 98, 3) := by decide +kernel
theorem dX7_comes_43 : decode cX7_comes 43 = .ok (.ifCond .le 5, 3) := by decide +kernel
theorem dX7_comes_46 : decode cX7_comes 46 = .ok (.iconst 0, 1) := by decide +kernel
theorem dX7_comes_47 : decode cX7_comes 47 = .ok (.ireturn, 1) := by decide +kernel
theorem dX7_comes_48 : decode cX7_comes 48 = .ok (.aload_n 0, 1) := by decide +kernel
theorem dX7_comes_49 : decode cX7_comes 49 = .ok (.getfield 139, 3) := by decide +kernel
theorem dX7_comes_52 : decode cX7_comes 52 = .ok (.bipush 8, 2) := by decide +kernel
theorem dX7_comes_54 : decode cX7_comes 54 = .ok (.if_icmp .ge 35, 3) := by decide +kernel
theorem dX7_comes_57 : decode cX7_comes 57 = .ok (.aload_n 0, 1) := by decide +kernel
theorem dX7_comes_58 : decode cX7_comes 58 = .ok (.iload_n 1, 1) := by decide +kernel
theorem dX7_comes_59 : decode cX7_comes 59 = .ok (.invokevirtual 142, 3) := by decide +kernel
theorem dX7_comes_62 : decode cX7_comes 62 = .ok (.ifCond .ne 27, 3) := by decide +kernel
theorem dX7_comes_65 : decode cX7_comes 65 = .ok (.aload_n 0, 1) := by decide +kernel
theorem dX7_comes_66 : decode cX7_comes 66 = .ok (.getfield 41, 3) := by decide +kernel
theorem dX7_comes_69 : decode cX7_comes 69 = .ok (.iload_n 1, 1) := by decide +kernel
theorem dX7_comes_70 : decode cX7_comes 70 = .ok (.baload, 1) := by decide +kernel
theorem dX7_comes_71 : decode cX7_comes 71 = .ok (.ifCond .ne 18, 3) := by decide +kernel
theorem dX7_comes_74 : decode cX7_comes 74 = .ok (.aload_n 0, 1) := by decide +kernel
theorem dX7_comes_75 : decode cX7_comes 75 = .ok (.getfield 19, 3) := by decide +kernel
theorem dX7_comes_78 : decode cX7_comes 78 = .ok (.iload_n 1, 1) := by decide +kernel
theorem dX7_comes_79 : decode cX7_comes 79 = .ok (.iaload, 1) := by decide +kernel
theorem dX7_comes_80 : decode cX7_comes 80 = .ok (.bipush (-2), 2) := by decide +kernel
theorem dX7_comes_82 : decode cX7_comes 82 = .ok (.if_icmp .eq 7, 3) := by decide +kernel
theorem dX7_comes_85 : decode cX7_comes 85 = .ok (.iconst 1, 1) := by decide +kernel
theorem dX7_comes_86 : decode cX7_comes 86 = .ok (.goto 4, 3) := by decide +kernel
theorem dX7_comes_89 : decode cX7_comes 89 = .ok (.iconst 0, 1) := by decide +kernel
theorem dX7_comes_90 : decode cX7_comes 90 = .ok (.istore_n 3, 1) := by decide +kernel
theorem dX7_comes_91 : decode cX7_comes 91 = .ok (.iconst 0, 1) := by decide +kernel
theorem dX7_comes_92 : decode cX7_comes 92 = .ok (.istore 4, 2) := by decide +kernel
theorem dX7_comes_94 : decode cX7_comes 94 = .ok (.iload 4, 2) := by decide +kernel
theorem dX7_comes_96 : decode cX7_comes 96 = .ok (.aload_n 0, 1) := by decide +kernel
theorem dX7_comes_97 : decode cX7_comes 97 = .ok (.getfield 139, 3) := by decide +kernel
theorem dX7_comes_100 : decode cX7_comes 100 = .ok (.if_icmp .ge 35, 3) := by decide +kernel
theorem dX7_comes_103 : decode cX7_comes 103 = .ok (.iload_n 3, 1) := by decide +kernel
theorem dX7_comes_104 : decode cX7_comes 104 = .ok (.ifCond .eq 23, 3) := by decide +kernel
theorem dX7_comes_107 : decode cX7_comes 107 = .ok (.aload_n 0, 1) := by decide +kernel
theorem dX7_comes_108 : decode cX7_comes 108 = .ok (.getfield 83, 3) := by decide +kernel
theorem dX7_comes_111 : decode cX7_comes 111 = .ok (.aload_n 0, 1) := by decide +kernel
theorem dX7_comes_112 : decode cX7_comes 112 = .ok (.getfield 80, 3) := by decide +kernel
theorem dX7_comes_115 : decode cX7_comes 115 = .ok (.iload 4, 2) := by decide +kernel
theorem dX7_comes_117 : decode cX7_comes 117 = .ok (.iaload, 1) := by decide +kernel
theorem dX7_comes_118 : decode cX7_comes 118 = .ok (.iaload, 1) := by decide +kernel
theorem dX7_comes_119 : decode cX7_comes 119 = .ok (.iload_n 2, 1) := by decide +kernel
theorem dX7_comes_120 : decode cX7_comes 120 = .ok (.if_icmp .eq 7, 3) := by decide +kernel
theorem dX7_comes_123 : decode cX7_comes 123 = .ok (.iconst 1, 1) := by decide +kernel
theorem dX7_comes_124 : decode cX7_comes 124 = .ok (.goto 4, 3) := by decide +kernel
theorem dX7_comes_127 : decode cX7_comes 127 = .ok (.iconst 0, 1) := by decide +kernel
theorem dX7_comes_128 : decode cX7_comes 128 = .ok (.istore_n 3, 1) := by decide +kernel
theorem dX7_comes_129 : decode cX7_comes 129 = .ok (.iinc 4 1, 3) := by decide +kernel
theorem dX7_comes_132 : decode cX7_comes 132 = .ok (.goto (-38), 3) := by decide +kernel
theorem dX7_comes_135 : decode cX7_comes 135 = .ok (.aload_n 0, 1) := by decide +kernel
theorem dX7_comes_136 : decode cX7_comes 136 = .ok (.iload_n 3, 1) := by decide +kernel
theorem dX7_comes_137 : decode cX7_comes 137 = .ok (.ifCond .eq 7, 3) := by decide +kernel
theorem dX7_comes_140 : decode cX7_comes 140 = .ok (.iconst 0, 1) := by decide +kernel
theorem dX7_comes_141 : decode cX7_comes 141 = .ok (.goto 4, 3) := by decide +kernel
theorem dX7_comes_144 : decode cX7_comes 144 = .ok (.iconst 3, 1) := by decide +kernel
theorem dX7_comes_145 : decode cX7_comes 145 = .ok (.putfield 98, 3) := by decide +kernel
theorem dX7_comes_148 : decode cX7_comes 148 = .ok (.aload_n 0, 1) := by decide +kernel
theorem dX7_comes_149 : decode cX7_comes 149 = .ok (.getfield 98, 3) := by decide +kernel
theorem dX7_comes_152 : decode cX7_comes 152 = .ok (.ifCond .le 5, 3) := by decide +kernel
theorem dX7_comes_155 : decode cX7_comes 155 = .ok (.iconst 0, 1) := by decide +kernel
theorem dX7_comes_156 : decode cX7_comes 156 = .ok (.ireturn, 1) := by decide +kernel
theorem dX7_comes_157 : decode cX7_comes 157 = .ok (.aload_n 0, 1) := by decide +kernel
theorem dX7_comes_158 : decode cX7_comes 158 = .ok (.getfield 80, 3) := by decide +kernel
theorem dX7_comes_161 : decode cX7_comes 161 = .ok (.aload_n 0, 1) := by decide +kernel
theorem dX7_comes_162 : decode cX7_comes 162 = .ok (.getfield 139, 3) := by decide +kernel
theorem dX7_comes_165 : decode cX7_comes 165 = .ok (.iload_n 1, 1) := by decide +kernel
theorem dX7_comes_166 : decode cX7_comes 166 = .ok (.iastore, 1) := by decide +kernel
theorem dX7_comes_167 : decode cX7_comes 167 = .ok (.aload_n 0, 1) := by decide +kernel
theorem dX7_comes_168 : decode cX7_comes 168 = .ok (.getfield 83, 3) := by decide +kernel
theorem dX7_comes_171 : decode cX7_comes 171 = .ok (.iload_n 1, 1) := by decide +kernel
theorem dX7_comes_172 : decode cX7_comes 172 = .ok (.iload_n 2, 1) := by decide +kernel
theorem dX7_comes_173 : decode cX7_comes 173 = .ok (.iastore, 1) := by decide +kernel
theorem dX7_comes_174 : decode cX7_comes 174 = .ok (.aload_n 0, 1) := by decide +kernel
theorem dX7_comes_175 : decode cX7_comes 175 = .ok (.dup, 1) := by decide +kernel
theorem dX7_comes_176 : decode cX7_comes 176 = .ok (.getfield 139, 3) := by decide +kernel
theorem dX7_comes_179 : decode cX7_comes 179 = .ok (.iconst 1, 1) := by decide +kernel
theorem dX7_comes_180 : decode cX7_comes 180 = .ok (.iadd, 1) := by decide +kernel
theorem dX7_comes_181 : decode cX7_comes 181 = .ok (.putfield 139, 3) := by decide +kernel
theorem dX7_comes_184 : decode cX7_comes 184 = .ok (.aload_n 0, 1) := by decide +kernel
theorem dX7_comes_185 : decode cX7_comes 185 = .ok (.getfield 139, 3) := by decide +kernel
theorem dX7_comes_188 : decode cX7_comes 188 = .ok (.ireturn, 1) := by decide +kernel
theorem dX7_movesOf_0 : decode cX7_movesOf 0 = .ok (.iconst 0, 1) := by decide +kernel
theorem dX7_movesOf_1 : decode cX7_movesOf 1 = .ok (.istore_n 1, 1) := by decide +kernel
theorem dX7_movesOf_2 : decode cX7_movesOf 2 = .ok (.iconst 0, 1) := by decide +kernel
theorem dX7_movesOf_3 : decode cX7_movesOf 3 = .ok (.istore_n 2, 1) := by decide +kernel
theorem dX7_movesOf_4 : decode cX7_movesOf 4 = .ok (.iload_n 2, 1) := by decide +kernel
theorem dX7_movesOf_5 : decode cX7_movesOf 5 = .ok (.aload_n 0, 1) := by decide +kernel
theorem dX7_movesOf_6 : decode cX7_movesOf 6 = .ok (.getfield 139, 3) := by decide +kernel
theorem dX7_movesOf_9 : decode cX7_movesOf 9 = .ok (.if_icmp .ge 117, 3) := by decide +kernel
theorem dX7_movesOf_12 : decode cX7_movesOf 12 = .ok (.iconst 0, 1) := by decide +kernel
theorem dX7_movesOf_13 : decode cX7_movesOf 13 = .ok (.istore_n 3, 1) := by decide +kernel
theorem dX7_movesOf_14 : decode cX7_movesOf 14 = .ok (.iconst 0, 1) := by decide +kernel
theorem dX7_movesOf_15 : decode cX7_movesOf 15 = .ok (.istore 4, 2) := by decide +kernel
theorem dX7_movesOf_17 : decode cX7_movesOf 17 = .ok (.iload 4, 2) := by decide +kernel
theorem dX7_movesOf_19 : decode cX7_movesOf 19 = .ok (.aload_n 0, 1) := by decide +kernel
theorem dX7_movesOf_20 : decode cX7_movesOf 20 = .ok (.getfield 139, 3) := by decide +kernel
theorem dX7_movesOf_23 : decode cX7_movesOf 23 = .ok (.if_icmp .ge 90, 3) := by decide +kernel
theorem dX7_movesOf_26 : decode cX7_movesOf 26 = .ok (.aload_n 0, 1) := by decide +kernel
theorem dX7_movesOf_27 : decode cX7_movesOf 27 = .ok (.getfield 89, 3) := by decide +kernel
theorem dX7_movesOf_30 : decode cX7_movesOf 30 = .ok (.iload_n 2, 1) := by decide +kernel
theorem dX7_movesOf_31 : decode cX7_movesOf 31 = .ok (.iaload, 1) := by decide +kernel
theorem dX7_movesOf_32 : decode cX7_movesOf 32 = .ok (.aload_n 0, 1) := by decide +kernel
theorem dX7_movesOf_33 : decode cX7_movesOf 33 = .ok (.getfield 89, 3) := by decide +kernel
theorem dX7_movesOf_36 : decode cX7_movesOf 36 = .ok (.iload 4, 2) := by decide +kernel
theorem dX7_movesOf_38 : decode cX7_movesOf 38 = .ok (.iaload, 1) := by decide +kernel
theorem dX7_movesOf_39 : decode cX7_movesOf 39 = .ok (.if_icmp .ne 7, 3) := by decide +kernel
theorem dX7_movesOf_42 : decode cX7_movesOf 42 = .ok (.iconst 1, 1) := by decide +kernel
theorem dX7_movesOf_43 : decode cX7_movesOf 43 = .ok (.goto 4, 3) := by decide +kernel
theorem dX7_movesOf_46 : decode cX7_movesOf 46 = .ok (.iconst 0, 1) := by decide +kernel
theorem dX7_movesOf_47 : decode cX7_movesOf 47 = .ok (.istore 5, 2) := by decide +kernel
theorem dX7_movesOf_49 : decode cX7_movesOf 49 = .ok (.iload_n 3, 1) := by decide +kernel
theorem dX7_movesOf_50 : decode cX7_movesOf 50 = .ok (.iload 5, 2) := by decide +kernel
theorem dX7_movesOf_52 : decode cX7_movesOf 52 = .ok (.ifCond .eq 7, 3) := by decide +kernel
theorem dX7_movesOf_55 : decode cX7_movesOf 55 = .ok (.iconst 1, 1) := by decide +kernel
theorem dX7_movesOf_56 : decode cX7_movesOf 56 = .ok (.goto 4, 3) := by decide +kernel
theorem dX7_movesOf_59 : decode cX7_movesOf 59 = .ok (.iconst 0, 1) := by decide +kernel
theorem dX7_movesOf_60 : decode cX7_movesOf 60 = .ok (.iadd, 1) := by decide +kernel
theorem dX7_movesOf_61 : decode cX7_movesOf 61 = .ok (.istore_n 3, 1) := by decide +kernel
theorem dX7_movesOf_62 : decode cX7_movesOf 62 = .ok (.iload_n 1, 1) := by decide +kernel
theorem dX7_movesOf_63 : decode cX7_movesOf 63 = .ok (.iload 5, 2) := by decide +kernel
theorem dX7_movesOf_65 : decode cX7_movesOf 65 = .ok (.ifCond .eq 39, 3) := by decide +kernel
theorem dX7_movesOf_68 : decode cX7_movesOf 68 = .ok (.iload 4, 2) := by decide +kernel
theorem dX7_movesOf_70 : decode cX7_movesOf 70 = .ok (.iload_n 2, 1) := by decide +kernel
theorem dX7_movesOf_71 : decode cX7_movesOf 71 = .ok (.if_icmp .le 33, 3) := by decide +kernel
theorem dX7_movesOf_74 : decode cX7_movesOf 74 = .ok (.aload_n 0, 1) := by decide +kernel
theorem dX7_movesOf_75 : decode cX7_movesOf 75 = .ok (.getfield 83, 3) := by decide +kernel
theorem dX7_movesOf_78 : decode cX7_movesOf 78 = .ok (.aload_n 0, 1) := by decide +kernel
theorem dX7_movesOf_79 : decode cX7_movesOf 79 = .ok (.getfield 80, 3) := by decide +kernel
theorem dX7_movesOf_82 : decode cX7_movesOf 82 = .ok (.iload_n 2, 1) := by decide +kernel
theorem dX7_movesOf_83 : decode cX7_movesOf 83 = .ok (.iaload, 1) := by decide +kernel
theorem dX7_movesOf_84 : decode cX7_movesOf 84 = .ok (.iaload, 1) := by decide +kernel
theorem dX7_movesOf_85 : decode cX7_movesOf 85 = .ok (.aload_n 0, 1) := by decide +kernel
theorem dX7_movesOf_86 : decode cX7_movesOf 86 = .ok (.getfield 83, 3) := by decide +kernel
theorem dX7_movesOf_89 : decode cX7_movesOf 89 = .ok (.aload_n 0, 1) := by decide +kernel
theorem dX7_movesOf_90 : decode cX7_movesOf 90 = .ok (.getfield 80, 3) := by decide +kernel
theorem dX7_movesOf_93 : decode cX7_movesOf 93 = .ok (.iload 4, 2) := by decide +kernel
theorem dX7_movesOf_95 : decode cX7_movesOf 95 = .ok (.iaload, 1) := by decide +kernel
theorem dX7_movesOf_96 : decode cX7_movesOf 96 = .ok (.iaload, 1) := by decide +kernel
theorem dX7_movesOf_97 : decode cX7_movesOf 97 = .ok (.if_icmp .ge 7, 3) := by decide +kernel
theorem dX7_movesOf_100 : decode cX7_movesOf 100 = .ok (.iconst 1, 1) := by decide +kernel
theorem dX7_movesOf_101 : decode cX7_movesOf 101 = .ok (.goto 4, 3) := by decide +kernel
theorem dX7_movesOf_104 : decode cX7_movesOf 104 = .ok (.iconst 0, 1) := by decide +kernel
theorem dX7_movesOf_105 : decode cX7_movesOf 105 = .ok (.iadd, 1) := by decide +kernel
theorem dX7_movesOf_106 : decode cX7_movesOf 106 = .ok (.istore_n 1, 1) := by decide +kernel
theorem dX7_movesOf_107 : decode cX7_movesOf 107 = .ok (.iinc 4 1, 3) := by decide +kernel
theorem dX7_movesOf_110 : decode cX7_movesOf 110 = .ok (.goto (-93), 3) := by decide +kernel
theorem dX7_movesOf_113 : decode cX7_movesOf 113 = .ok (.iload_n 3, 1) := by decide +kernel
theorem dX7_movesOf_114 : decode cX7_movesOf 114 = .ok (.iconst 4, 1) := by decide +kernel
theorem dX7_movesOf_115 : decode cX7_movesOf 115 = .ok (.if_icmp .le 5, 3) := by decide +kernel
theorem dX7_movesOf_118 : decode cX7_movesOf 118 = .ok (.iconst (-1), 1) := by decide +kernel
theorem dX7_movesOf_119 : decode cX7_movesOf 119 = .ok (.ireturn, 1) := by decide +kernel
theorem dX7_movesOf_120 : decode cX7_movesOf 120 = .ok (.iinc 2 1, 3) := by decide +kernel
theorem dX7_movesOf_123 : decode cX7_movesOf 123 = .ok (.goto (-119), 3) := by decide +kernel
theorem dX7_movesOf_126 : decode cX7_movesOf 126 = .ok (.iload_n 1, 1) := by decide +kernel
theorem dX7_movesOf_127 : decode cX7_movesOf 127 = .ok (.ireturn, 1) := by decide +kernel
theorem dX7_plans_0 : decode cX7_plans 0 = .ok (.iconst 1, 1) := by decide +kernel
theorem dX7_plans_1 : decode cX7_plans 1 = .ok (.istore_n 1, 1) := by decide +kernel
theorem dX7_plans_2 : decode cX7_plans 2 = .ok (.iconst 0, 1) := by decide +kernel
theorem dX7_plans_3 : decode cX7_plans 3 = .ok (.istore_n 2, 1) := by decide +kernel
theorem dX7_plans_4 : decode cX7_plans 4 = .ok (.iload_n 2, 1) := by decide +kernel
theorem dX7_plans_5 : decode cX7_plans 5 = .ok (.aload_n 0, 1) := by decide +kernel
theorem dX7_plans_6 : decode cX7_plans 6 = .ok (.getfield 139, 3) := by decide +kernel
theorem dX7_plans_9 : decode cX7_plans 9 = .ok (.if_icmp .ge 13, 3) := by decide +kernel
theorem dX7_plans_12 : decode cX7_plans 12 = .ok (.iload_n 1, 1) := by decide +kernel
theorem dX7_plans_13 : decode cX7_plans 13 = .ok (.iconst 3, 1) := by decide +kernel
theorem dX7_plans_14 : decode cX7_plans 14 = .ok (.imul, 1) := by decide +kernel
theorem dX7_plans_15 : decode cX7_plans 15 = .ok (.istore_n 1, 1) := by decide +kernel
theorem dX7_plans_16 : decode cX7_plans 16 = .ok (.iinc 2 1, 3) := by decide +kernel
theorem dX7_plans_19 : decode cX7_plans 19 = .ok (.goto (-15), 3) := by decide +kernel
theorem dX7_plans_22 : decode cX7_plans 22 = .ok (.iconst (-1), 1) := by decide +kernel
theorem dX7_plans_23 : decode cX7_plans 23 = .ok (.istore_n 2, 1) := by decide +kernel
theorem dX7_plans_24 : decode cX7_plans 24 = .ok (.iconst 0, 1) := by decide +kernel
theorem dX7_plans_25 : decode cX7_plans 25 = .ok (.istore_n 3, 1) := by decide +kernel
theorem dX7_plans_26 : decode cX7_plans 26 = .ok (.iload_n 3, 1) := by decide +kernel
theorem dX7_plans_27 : decode cX7_plans 27 = .ok (.iload_n 1, 1) := by decide +kernel
theorem dX7_plans_28 : decode cX7_plans 28 = .ok (.if_icmp .ge 106, 3) := by decide +kernel
theorem dX7_plans_31 : decode cX7_plans 31 = .ok (.iload_n 3, 1) := by decide +kernel
theorem dX7_plans_32 : decode cX7_plans 32 = .ok (.istore 4, 2) := by decide +kernel
theorem dX7_plans_34 : decode cX7_plans 34 = .ok (.aload_n 0, 1) := by decide +kernel
theorem dX7_plans_35 : decode cX7_plans 35 = .ok (.getfield 139, 3) := by decide +kernel
theorem dX7_plans_38 : decode cX7_plans 38 = .ok (.iconst 1, 1) := by decide +kernel
theorem dX7_plans_39 : decode cX7_plans 39 = .ok (.isub, 1) := by decide +kernel
theorem dX7_plans_40 : decode cX7_plans 40 = .ok (.istore 5, 2) := by decide +kernel
theorem dX7_plans_42 : decode cX7_plans 42 = .ok (.iload 5, 2) := by decide +kernel
theorem dX7_plans_44 : decode cX7_plans 44 = .ok (.ifCond .lt 26, 3) := by decide +kernel
theorem dX7_plans_47 : decode cX7_plans 47 = .ok (.aload_n 0, 1) := by decide +kernel
theorem dX7_plans_48 : decode cX7_plans 48 = .ok (.getfield 89, 3) := by decide +kernel
theorem dX7_plans_51 : decode cX7_plans 51 = .ok (.iload 5, 2) := by decide +kernel
theorem dX7_plans_53 : decode cX7_plans 53 = .ok (.iload 4, 2) := by decide +kernel
theorem dX7_plans_55 : decode cX7_plans 55 = .ok (.iconst 3, 1) := by decide +kernel
theorem dX7_plans_56 : decode cX7_plans 56 = .ok (.irem, 1) := by decide +kernel
theorem dX7_plans_57 : decode cX7_plans 57 = .ok (.iastore, 1) := by decide +kernel
theorem dX7_plans_58 : decode cX7_plans 58 = .ok (.iload 4, 2) := by decide +kernel
theorem dX7_plans_60 : decode cX7_plans 60 = .ok (.iconst 3, 1) := by decide +kernel
theorem dX7_plans_61 : decode cX7_plans 61 = .ok (.idiv, 1) := by decide +kernel
theorem dX7_plans_62 : decode cX7_plans 62 = .ok (.istore 4, 2) := by decide +kernel
theorem dX7_plans_64 : decode cX7_plans 64 = .ok (.iinc 5 (-1), 3) := by decide +kernel
theorem dX7_plans_67 : decode cX7_plans 67 = .ok (.goto (-25), 3) := by decide +kernel
theorem dX7_plans_70 : decode cX7_plans 70 = .ok (.aload_n 0, 1) := by decide +kernel
theorem dX7_plans_71 : decode cX7_plans 71 = .ok (.invokevirtual 189, 3) := by decide +kernel
theorem dX7_plans_74 : decode cX7_plans 74 = .ok (.istore 5, 2) := by decide +kernel
theorem dX7_plans_76 : decode cX7_plans 76 = .ok (.iload 5, 2) := by decide +kernel
theorem dX7_plans_78 : decode cX7_plans 78 = .ok (.iconst (-1), 1) := by decide +kernel
theorem dX7_plans_79 : decode cX7_plans 79 = .ok (.if_icmp .eq 49, 3) := by decide +kernel
theorem dX7_plans_82 : decode cX7_plans 82 = .ok (.iload_n 2, 1) := by decide +kernel
theorem dX7_plans_83 : decode cX7_plans 83 = .ok (.iconst (-1), 1) := by decide +kernel
theorem dX7_plans_84 : decode cX7_plans 84 = .ok (.if_icmp .eq 9, 3) := by decide +kernel
theorem dX7_plans_87 : decode cX7_plans 87 = .ok (.iload 5, 2) := by decide +kernel
theorem dX7_plans_89 : decode cX7_plans 89 = .ok (.iload_n 2, 1) := by decide +kernel
theorem dX7_plans_90 : decode cX7_plans 90 = .ok (.if_icmp .ge 38, 3) := by decide +kernel
theorem dX7_plans_93 : decode cX7_plans 93 = .ok (.iload 5, 2) := by decide +kernel
theorem dX7_plans_95 : decode cX7_plans 95 = .ok (.istore_n 2, 1) := by decide +kernel
theorem dX7_plans_96 : decode cX7_plans 96 = .ok (.iconst 0, 1) := by decide +kernel
theorem dX7_plans_97 : decode cX7_plans 97 = .ok (.istore 6, 2) := by decide +kernel
theorem dX7_plans_99 : decode cX7_plans 99 = .ok (.iload 6, 2) := by decide +kernel
theorem dX7_plans_101 : decode cX7_plans 101 = .ok (.aload_n 0, 1) := by decide +kernel
theorem dX7_plans_102 : decode cX7_plans 102 = .ok (.getfield 139, 3) := by decide +kernel
theorem dX7_plans_105 : decode cX7_plans 105 = .ok (.if_icmp .ge 23, 3) := by decide +kernel
theorem dX7_plans_108 : decode cX7_plans 108 = .ok (.aload_n 0, 1) := by decide +kernel
theorem dX7_plans_109 : decode cX7_plans 109 = .ok (.getfield 86, 3) := by decide +kernel
theorem dX7_plans_112 : decode cX7_plans 112 = .ok (.iload 6, 2) := by decide +kernel
theorem dX7_plans_114 : decode cX7_plans 114 = .ok (.aload_n 0, 1) := by decide +kernel
theorem dX7_plans_115 : decode cX7_plans 115 = .ok (.getfield 89, 3) := by decide +kernel
theorem dX7_plans_118 : decode cX7_plans 118 = .ok (.iload 6, 2) := by decide +kernel
theorem dX7_plans_120 : decode cX7_plans 120 = .ok (.iaload, 1) := by decide +kernel
theorem dX7_plans_121 : decode cX7_plans 121 = .ok (.iastore, 1) := by decide +kernel
theorem dX7_plans_122 : decode cX7_plans 122 = .ok (.iinc 6 1, 3) := by decide +kernel
theorem dX7_plans_125 : decode cX7_plans 125 = .ok (.goto (-26), 3) := by decide +kernel
theorem dX7_plans_128 : decode cX7_plans 128 = .ok (.iinc 3 1, 3) := by decide +kernel
theorem dX7_plans_131 : decode cX7_plans 131 = .ok (.goto (-105), 3) := by decide +kernel
theorem dX7_plans_134 : decode cX7_plans 134 = .ok (.iload_n 2, 1) := by decide +kernel
theorem dX7_plans_135 : decode cX7_plans 135 = .ok (.ireturn, 1) := by decide +kernel
theorem dX7_night_0 : decode cX7_night 0 = .ok (.aload_n 0, 1) := by decide +kernel
theorem dX7_night_1 : decode cX7_night 1 = .ok (.aload_n 0, 1) := by decide +kernel
theorem dX7_night_2 : decode cX7_night 2 = .ok (.getfield 139, 3) := by decide +kernel
theorem dX7_night_5 : decode cX7_night 5 = .ok (.ifCond .eq 26, 3) := by decide +kernel
theorem dX7_night_8 : decode cX7_night 8 = .ok (.aload_n 0, 1) := by decide +kernel
theorem dX7_night_9 : decode cX7_night 9 = .ok (.getfield 92, 3) := by decide +kernel
theorem dX7_night_12 : decode cX7_night 12 = .ok (.iconst 0, 1) := by decide +kernel
theorem dX7_night_13 : decode cX7_night 13 = .ok (.iaload, 1) := by decide +kernel
theorem dX7_night_14 : decode cX7_night 14 = .ok (.aload_n 0, 1) := by decide +kernel
theorem dX7_night_15 : decode cX7_night 15 = .ok (.getfield 92, 3) := by decide +kernel
theorem dX7_night_18 : decode cX7_night 18 = .ok (.iconst 1, 1) := by decide +kernel
theorem dX7_night_19 : decode cX7_night 19 = .ok (.iaload, 1) := by decide +kernel
theorem dX7_night_20 : decode cX7_night 20 = .ok (.iadd, 1) := by decide +kernel
theorem dX7_night_21 : decode cX7_night 21 = .ok (.aload_n 0, 1) := by decide +kernel
theorem dX7_night_22 : decode cX7_night 22 = .ok (.getfield 92, 3) := by decide +kernel
theorem dX7_night_25 : decode cX7_night 25 = .ok (.iconst 2, 1) := by decide +kernel
theorem dX7_night_26 : decode cX7_night 26 = .ok (.iaload, 1) := by decide +kernel
theorem dX7_night_27 : decode cX7_night 27 = .ok (.iadd, 1) := by decide +kernel
theorem dX7_night_28 : decode cX7_night 28 = .ok (.ifCond .le 7, 3) := by decide +kernel
theorem dX7_night_31 : decode cX7_night 31 = .ok (.iconst 1, 1) := by decide +kernel
theorem dX7_night_32 : decode cX7_night 32 = .ok (.goto 4, 3) := by decide +kernel
theorem dX7_night_35 : decode cX7_night 35 = .ok (.iconst 0, 1) := by decide +kernel
theorem dX7_night_36 : decode cX7_night 36 = .ok (.putfield 98, 3) := by decide +kernel
theorem dX7_night_39 : decode cX7_night 39 = .ok (.aload_n 0, 1) := by decide +kernel
theorem dX7_night_40 : decode cX7_night 40 = .ok (.getfield 98, 3) := by decide +kernel
theorem dX7_night_43 : decode cX7_night 43 = .ok (.ifCond .le 5, 3) := by decide +kernel
theorem dX7_night_46 : decode cX7_night 46 = .ok (.iconst 0, 1) := by decide +kernel
theorem dX7_night_47 : decode cX7_night 47 = .ok (.ireturn, 1) := by decide +kernel
theorem dX7_night_48 : decode cX7_night 48 = .ok (.aload_n 0, 1) := by decide +kernel
theorem dX7_night_49 : decode cX7_night 49 = .ok (.invokevirtual 193, 3) := by decide +kernel
theorem dX7_night_52 : decode cX7_night 52 = .ok (.istore_n 1, 1) := by decide +kernel
theorem dX7_night_53 : decode cX7_night 53 = .ok (.iconst 0, 1) := by decide +kernel
theorem dX7_night_54 : decode cX7_night 54 = .ok (.istore_n 2, 1) := by decide +kernel
theorem dX7_night_55 : decode cX7_night 55 = .ok (.iload_n 2, 1) := by decide +kernel
theorem dX7_night_56 : decode cX7_night 56 = .ok (.aload_n 0, 1) := by decide +kernel
theorem dX7_night_57 : decode cX7_night 57 = .ok (.getfield 139, 3) := by decide +kernel
theorem dX7_night_60 : decode cX7_night 60 = .ok (.if_icmp .ge 67, 3) := by decide +kernel
theorem dX7_night_63 : decode cX7_night 63 = .ok (.aload_n 0, 1) := by decide +kernel
theorem dX7_night_64 : decode cX7_night 64 = .ok (.getfield 95, 3) := by decide +kernel
theorem dX7_night_67 : decode cX7_night 67 = .ok (.iconst 4, 1) := by decide +kernel
theorem dX7_night_68 : decode cX7_night 68 = .ok (.aload_n 0, 1) := by decide +kernel
theorem dX7_night_69 : decode cX7_night 69 = .ok (.getfield 86, 3) := by decide +kernel
theorem dX7_night_72 : decode cX7_night 72 = .ok (.iload_n 2, 1) := by decide +kernel
theorem dX7_night_73 : decode cX7_night 73 = .ok (.iaload, 1) := by decide +kernel
theorem dX7_night_74 : decode cX7_night 74 = .ok (.imul, 1) := by decide +kernel
theorem dX7_night_75 : decode cX7_night 75 = .ok (.aload_n 0, 1) := by decide +kernel
theorem dX7_night_76 : decode cX7_night 76 = .ok (.getfield 92, 3) := by decide +kernel
theorem dX7_night_79 : decode cX7_night 79 = .ok (.aload_n 0, 1) := by decide +kernel
theorem dX7_night_80 : decode cX7_night 80 = .ok (.getfield 86, 3) := by decide +kernel
theorem dX7_night_83 : decode cX7_night 83 = .ok (.iload_n 2, 1) := by decide +kernel
theorem dX7_night_84 : decode cX7_night 84 = .ok (.iaload, 1) := by decide +kernel
theorem dX7_night_85 : decode cX7_night 85 = .ok (.iaload, 1) := by decide +kernel
theorem dX7_night_86 : decode cX7_night 86 = .ok (.iadd, 1) := by decide +kernel
theorem dX7_night_87 : decode cX7_night 87 = .ok (.aload_n 0, 1) := by decide +kernel
theorem dX7_night_88 : decode cX7_night 88 = .ok (.getfield 80, 3) := by decide +kernel
theorem dX7_night_91 : decode cX7_night 91 = .ok (.iload_n 2, 1) := by decide +kernel
theorem dX7_night_92 : decode cX7_night 92 = .ok (.iaload, 1) := by decide +kernel
theorem dX7_night_93 : decode cX7_night 93 = .ok (.iastore, 1) := by decide +kernel
theorem dX7_night_94 : decode cX7_night 94 = .ok (.aload_n 0, 1) := by decide +kernel
theorem dX7_night_95 : decode cX7_night 95 = .ok (.getfield 92, 3) := by decide +kernel
theorem dX7_night_98 : decode cX7_night 98 = .ok (.aload_n 0, 1) := by decide +kernel
theorem dX7_night_99 : decode cX7_night 99 = .ok (.getfield 86, 3) := by decide +kernel
theorem dX7_night_102 : decode cX7_night 102 = .ok (.iload_n 2, 1) := by decide +kernel
theorem dX7_night_103 : decode cX7_night 103 = .ok (.iaload, 1) := by decide +kernel
theorem dX7_night_104 : decode cX7_night 104 = .ok (.dup2, 1) := by decide +kernel
theorem dX7_night_105 : decode cX7_night 105 = .ok (.iaload, 1) := by decide +kernel
theorem dX7_night_106 : decode cX7_night 106 = .ok (.iconst 1, 1) := by decide +kernel
theorem dX7_night_107 : decode cX7_night 107 = .ok (.iadd, 1) := by decide +kernel
theorem dX7_night_108 : decode cX7_night 108 = .ok (.iastore, 1) := by decide +kernel
theorem dX7_night_109 : decode cX7_night 109 = .ok (.aload_n 0, 1) := by decide +kernel
theorem dX7_night_110 : decode cX7_night 110 = .ok (.getfield 41, 3) := by decide +kernel
theorem dX7_night_113 : decode cX7_night 113 = .ok (.aload_n 0, 1) := by decide +kernel
theorem dX7_night_114 : decode cX7_night 114 = .ok (.getfield 80, 3) := by decide +kernel
theorem dX7_night_117 : decode cX7_night 117 = .ok (.iload_n 2, 1) := by decide +kernel
theorem dX7_night_118 : decode cX7_night 118 = .ok (.iaload, 1) := by decide +kernel
theorem dX7_night_119 : decode cX7_night 119 = .ok (.iconst 1, 1) := by decide +kernel
theorem dX7_night_120 : decode cX7_night 120 = .ok (.bastore, 1) := by decide +kernel
theorem dX7_night_121 : decode cX7_night 121 = .ok (.iinc 2 1, 3) := by decide +kernel
theorem dX7_night_124 : decode cX7_night 124 = .ok (.goto (-69), 3) := by decide +kernel
theorem dX7_night_127 : decode cX7_night 127 = .ok (.aload_n 0, 1) := by decide +kernel
theorem dX7_night_128 : decode cX7_night 128 = .ok (.iconst 0, 1) := by decide +kernel
theorem dX7_night_129 : decode cX7_night 129 = .ok (.putfield 139, 3) := by decide +kernel
theorem dX7_night_132 : decode cX7_night 132 = .ok (.iload_n 1, 1) := by decide +kernel
theorem dX7_night_133 : decode cX7_night 133 = .ok (.ireturn, 1) := by decide +kernel
theorem dX7_out_0 : decode cX7_out 0 = .ok (.iconst (-1), 1) := by decide +kernel
theorem dX7_out_1 : decode cX7_out 1 = .ok (.istore_n 1, 1) := by decide +kernel
theorem dX7_out_2 : decode cX7_out 2 = .ok (.iconst 0, 1) := by decide +kernel
theorem dX7_out_3 : decode cX7_out 3 = .ok (.istore_n 2, 1) := by decide +kernel
theorem dX7_out_4 : decode cX7_out 4 = .ok (.iconst 0, 1) := by decide +kernel
theorem dX7_out_5 : decode cX7_out 5 = .ok (.istore_n 3, 1) := by decide +kernel
theorem dX7_out_6 : decode cX7_out 6 = .ok (.iload_n 3, 1) := by decide +kernel
theorem dX7_out_7 : decode cX7_out 7 = .ok (.iconst 3, 1) := by decide +kernel
theorem dX7_out_8 : decode cX7_out 8 = .ok (.if_icmp .ge 98, 3) := by decide +kernel
theorem dX7_out_11 : decode cX7_out 11 = .ok (.iconst 0, 1) := by decide +kernel
theorem dX7_out_12 : decode cX7_out 12 = .ok (.istore 4, 2) := by decide +kernel
theorem dX7_out_14 : decode cX7_out 14 = .ok (.iload 4, 2) := by decide +kernel
theorem dX7_out_16 : decode cX7_out 16 = .ok (.aload_n 0, 1) := by decide +kernel
theorem dX7_out_17 : decode cX7_out 17 = .ok (.getfield 92, 3) := by decide +kernel
theorem dX7_out_20 : decode cX7_out 20 = .ok (.iload_n 3, 1) := by decide +kernel
theorem dX7_out_21 : decode cX7_out 21 = .ok (.iaload, 1) := by decide +kernel
theorem dX7_out_22 : decode cX7_out 22 = .ok (.if_icmp .ge 78, 3) := by decide +kernel
theorem dX7_out_25 : decode cX7_out 25 = .ok (.iload_n 1, 1) := by decide +kernel
theorem dX7_out_26 : decode cX7_out 26 = .ok (.iconst (-1), 1) := by decide +kernel
theorem dX7_out_27 : decode cX7_out 27 = .ok (.if_icmp .eq 37, 3) := by decide +kernel
theorem dX7_out_30 : decode cX7_out 30 = .ok (.aload_n 0, 1) := by decide +kernel
theorem dX7_out_31 : decode cX7_out 31 = .ok (.getfield 83, 3) := by decide +kernel
theorem dX7_out_34 : decode cX7_out 34 = .ok (.aload_n 0, 1) := by decide +kernel
theorem dX7_out_35 : decode cX7_out 35 = .ok (.getfield 95, 3) := by decide +kernel
theorem dX7_out_38 : decode cX7_out 38 = .ok (.iconst 4, 1) := by decide +kernel
theorem dX7_out_39 : decode cX7_out 39 = .ok (.iload_n 3, 1) := by decide +kernel
theorem dX7_out_40 : decode cX7_out 40 = .ok (.imul, 1) := by decide +kernel
theorem dX7_out_41 : decode cX7_out 41 = .ok (.iload 4, 2) := by decide +kernel
theorem dX7_out_43 : decode cX7_out 43 = .ok (.iadd, 1) := by decide +kernel
theorem dX7_out_44 : decode cX7_out 44 = .ok (.iaload, 1) := by decide +kernel
theorem dX7_out_45 : decode cX7_out 45 = .ok (.iaload, 1) := by decide +kernel
theorem dX7_out_46 : decode cX7_out 46 = .ok (.aload_n 0, 1) := by decide +kernel
theorem dX7_out_47 : decode cX7_out 47 = .ok (.getfield 83, 3) := by decide +kernel
theorem dX7_out_50 : decode cX7_out 50 = .ok (.aload_n 0, 1) := by decide +kernel
theorem dX7_out_51 : decode cX7_out 51 = .ok (.getfield 95, 3) := by decide +kernel
theorem dX7_out_54 : decode cX7_out 54 = .ok (.iconst 4, 1) := by decide +kernel
theorem dX7_out_55 : decode cX7_out 55 = .ok (.iload_n 1, 1) := by decide +kernel
theorem dX7_out_56 : decode cX7_out 56 = .ok (.imul, 1) := by decide +kernel
theorem dX7_out_57 : decode cX7_out 57 = .ok (.iload_n 2, 1) := by decide +kernel
theorem dX7_out_58 : decode cX7_out 58 = .ok (.iadd, 1) := by decide +kernel
theorem dX7_out_59 : decode cX7_out 59 = .ok (.iaload, 1) := by decide +kernel
theorem dX7_out_60 : decode cX7_out 60 = .ok (.iaload, 1) := by decide +kernel
theorem dX7_out_61 : decode cX7_out 61 = .ok (.if_icmp .ge 7, 3) := by decide +kernel
theorem dX7_out_64 : decode cX7_out 64 = .ok (.iconst 1, 1) := by decide +kernel
theorem dX7_out_65 : decode cX7_out 65 = .ok (.goto 4, 3) := by decide +kernel
theorem dX7_out_68 : decode cX7_out 68 = .ok (.iconst 0, 1) := by decide +kernel
theorem dX7_out_69 : decode cX7_out 69 = .ok (.istore 5, 2) := by decide +kernel
theorem dX7_out_71 : decode cX7_out 71 = .ok (.iload 5, 2) := by decide +kernel
theorem dX7_out_73 : decode cX7_out 73 = .ok (.ifCond .eq 8, 3) := by decide +kernel
theorem dX7_out_76 : decode cX7_out 76 = .ok (.iload 4, 2) := by decide +kernel
theorem dX7_out_78 : decode cX7_out 78 = .ok (.goto 4, 3) := by decide +kernel
theorem dX7_out_81 : decode cX7_out 81 = .ok (.iload_n 2, 1) := by decide +kernel
theorem dX7_out_82 : decode cX7_out 82 = .ok (.istore_n 2, 1) := by decide +kernel
theorem dX7_out_83 : decode cX7_out 83 = .ok (.iload 5, 2) := by decide +kernel
theorem dX7_out_85 : decode cX7_out 85 = .ok (.ifCond .eq 7, 3) := by decide +kernel
theorem dX7_out_88 : decode cX7_out 88 = .ok (.iload_n 3, 1) := by decide +kernel
theorem dX7_out_89 : decode cX7_out 89 = .ok (.goto 4, 3) := by decide +kernel
theorem dX7_out_92 : decode cX7_out 92 = .ok (.iload_n 1, 1) := by decide +kernel
theorem dX7_out_93 : decode cX7_out 93 = .ok (.istore_n 1, 1) := by decide +kernel
theorem dX7_out_94 : decode cX7_out 94 = .ok (.iinc 4 1, 3) := by decide +kernel
theorem dX7_out_97 : decode cX7_out 97 = .ok (.goto (-83), 3) := by decide +kernel
theorem dX7_out_100 : decode cX7_out 100 = .ok (.iinc 3 1, 3) := by decide +kernel
theorem dX7_out_103 : decode cX7_out 103 = .ok (.goto (-97), 3) := by decide +kernel
theorem dX7_out_106 : decode cX7_out 106 = .ok (.aload_n 0, 1) := by decide +kernel
theorem dX7_out_107 : decode cX7_out 107 = .ok (.iload_n 1, 1) := by decide +kernel
theorem dX7_out_108 : decode cX7_out 108 = .ok (.iconst (-1), 1) := by decide +kernel
theorem dX7_out_109 : decode cX7_out 109 = .ok (.if_icmp .ne 7, 3) := by decide +kernel
theorem dX7_out_112 : decode cX7_out 112 = .ok (.iconst 1, 1) := by decide +kernel
theorem dX7_out_113 : decode cX7_out 113 = .ok (.goto 4, 3) := by decide +kernel
theorem dX7_out_116 : decode cX7_out 116 = .ok (.iconst 0, 1) := by decide +kernel
theorem dX7_out_117 : decode cX7_out 117 = .ok (.putfield 98, 3) := by decide +kernel
theorem dX7_out_120 : decode cX7_out 120 = .ok (.aload_n 0, 1) := by decide +kernel
theorem dX7_out_121 : decode cX7_out 121 = .ok (.getfield 98, 3) := by decide +kernel
theorem dX7_out_124 : decode cX7_out 124 = .ok (.ifCond .le 5, 3) := by decide +kernel
theorem dX7_out_127 : decode cX7_out 127 = .ok (.iconst 0, 1) := by decide +kernel
theorem dX7_out_128 : decode cX7_out 128 = .ok (.ireturn, 1) := by decide +kernel
theorem dX7_out_129 : decode cX7_out 129 = .ok (.aload_n 0, 1) := by decide +kernel
theorem dX7_out_130 : decode cX7_out 130 = .ok (.getfield 41, 3) := by decide +kernel
theorem dX7_out_133 : decode cX7_out 133 = .ok (.aload_n 0, 1) := by decide +kernel
theorem dX7_out_134 : decode cX7_out 134 = .ok (.getfield 95, 3) := by decide +kernel
theorem dX7_out_137 : decode cX7_out 137 = .ok (.iconst 4, 1) := by decide +kernel
theorem dX7_out_138 : decode cX7_out 138 = .ok (.iload_n 1, 1) := by decide +kernel
theorem dX7_out_139 : decode cX7_out 139 = .ok (.imul, 1) := by decide +kernel
theorem dX7_out_140 : decode cX7_out 140 = .ok (.iload_n 2, 1) := by decide +kernel
theorem dX7_out_141 : decode cX7_out 141 = .ok (.iadd, 1) := by decide +kernel
theorem dX7_out_142 : decode cX7_out 142 = .ok (.iaload, 1) := by decide +kernel
theorem dX7_out_143 : decode cX7_out 143 = .ok (.iconst 0, 1) := by decide +kernel
theorem dX7_out_144 : decode cX7_out 144 = .ok (.bastore, 1) := by decide +kernel
theorem dX7_out_145 : decode cX7_out 145 = .ok (.aload_n 0, 1) := by decide +kernel
theorem dX7_out_146 : decode cX7_out 146 = .ok (.getfield 92, 3) := by decide +kernel
theorem dX7_out_149 : decode cX7_out 149 = .ok (.iload_n 1, 1) := by decide +kernel
theorem dX7_out_150 : decode cX7_out 150 = .ok (.iaload, 1) := by decide +kernel
theorem dX7_out_151 : decode cX7_out 151 = .ok (.iconst 1, 1) := by decide +kernel
theorem dX7_out_152 : decode cX7_out 152 = .ok (.isub, 1) := by decide +kernel
theorem dX7_out_153 : decode cX7_out 153 = .ok (.iload_n 2, 1) := by decide +kernel
theorem dX7_out_154 : decode cX7_out 154 = .ok (.isub, 1) := by decide +kernel
theorem dX7_out_155 : decode cX7_out 155 = .ok (.istore_n 3, 1) := by decide +kernel
theorem dX7_out_156 : decode cX7_out 156 = .ok (.iload_n 2, 1) := by decide +kernel
theorem dX7_out_157 : decode cX7_out 157 = .ok (.istore 4, 2) := by decide +kernel
theorem dX7_out_159 : decode cX7_out 159 = .ok (.iload 4, 2) := by decide +kernel
theorem dX7_out_161 : decode cX7_out 161 = .ok (.iconst 1, 1) := by decide +kernel
theorem dX7_out_162 : decode cX7_out 162 = .ok (.iadd, 1) := by decide +kernel
theorem dX7_out_163 : decode cX7_out 163 = .ok (.aload_n 0, 1) := by decide +kernel
theorem dX7_out_164 : decode cX7_out 164 = .ok (.getfield 92, 3) := by decide +kernel
theorem dX7_out_167 : decode cX7_out 167 = .ok (.iload_n 1, 1) := by decide +kernel
theorem dX7_out_168 : decode cX7_out 168 = .ok (.iaload, 1) := by decide +kernel
theorem dX7_out_169 : decode cX7_out 169 = .ok (.if_icmp .ge 33, 3) := by decide +kernel
theorem dX7_out_172 : decode cX7_out 172 = .ok (.aload_n 0, 1) := by decide +kernel
theorem dX7_out_173 : decode cX7_out 173 = .ok (.getfield 95, 3) := by decide +kernel
theorem dX7_out_176 : decode cX7_out 176 = .ok (.iconst 4, 1) := by decide +kernel
theorem dX7_out_177 : decode cX7_out 177 = .ok (.iload_n 1, 1) := by decide +kernel
theorem dX7_out_178 : decode cX7_out 178 = .ok (.imul, 1) := by decide +kernel
theorem dX7_out_179 : decode cX7_out 179 = .ok (.iload 4, 2) := by decide +kernel
theorem dX7_out_181 : decode cX7_out 181 = .ok (.iadd, 1) := by decide +kernel
theorem dX7_out_182 : decode cX7_out 182 = .ok (.aload_n 0, 1) := by decide +kernel
theorem dX7_out_183 : decode cX7_out 183 = .ok (.getfield 95, 3) := by decide +kernel
theorem dX7_out_186 : decode cX7_out 186 = .ok (.iconst 4, 1) := by decide +kernel
theorem dX7_out_187 : decode cX7_out 187 = .ok (.iload_n 1, 1) := by decide +kernel
theorem dX7_out_188 : decode cX7_out 188 = .ok (.imul, 1) := by decide +kernel
theorem dX7_out_189 : decode cX7_out 189 = .ok (.iload 4, 2) := by decide +kernel
theorem dX7_out_191 : decode cX7_out 191 = .ok (.iadd, 1) := by decide +kernel
theorem dX7_out_192 : decode cX7_out 192 = .ok (.iconst 1, 1) := by decide +kernel
theorem dX7_out_193 : decode cX7_out 193 = .ok (.iadd, 1) := by decide +kernel
theorem dX7_out_194 : decode cX7_out 194 = .ok (.iaload, 1) := by decide +kernel
theorem dX7_out_195 : decode cX7_out 195 = .ok (.iastore, 1) := by decide +kernel
theorem dX7_out_196 : decode cX7_out 196 = .ok (.iinc 4 1, 3) := by decide +kernel
theorem dX7_out_199 : decode cX7_out 199 = .ok (.goto (-40), 3) := by decide +kernel
theorem dX7_out_202 : decode cX7_out 202 = .ok (.aload_n 0, 1) := by decide +kernel
theorem dX7_out_203 : decode cX7_out 203 = .ok (.getfield 92, 3) := by decide +kernel
theorem dX7_out_206 : decode cX7_out 206 = .ok (.iload_n 1, 1) := by decide +kernel
theorem dX7_out_207 : decode cX7_out 207 = .ok (.dup2, 1) := by decide +kernel
theorem dX7_out_208 : decode cX7_out 208 = .ok (.iaload, 1) := by decide +kernel
theorem dX7_out_209 : decode cX7_out 209 = .ok (.iconst 1, 1) := by decide +kernel
theorem dX7_out_210 : decode cX7_out 210 = .ok (.isub, 1) := by decide +kernel
theorem dX7_out_211 : decode cX7_out 211 = .ok (.iastore, 1) := by decide +kernel
theorem dX7_out_212 : decode cX7_out 212 = .ok (.iload_n 3, 1) := by decide +kernel
theorem dX7_out_213 : decode cX7_out 213 = .ok (.ireturn, 1) := by decide +kernel
theorem dX7_host_0 : decode cX7_host 0 = .ok (.aload_n 0, 1) := by decide +kernel
theorem dX7_host_1 : decode cX7_host 1 = .ok (.aload_n 0, 1) := by decide +kernel
theorem dX7_host_2 : decode cX7_host 2 = .ok (.iload_n 1, 1) := by decide +kernel
theorem dX7_host_3 : decode cX7_host 3 = .ok (.invokevirtual 109, 3) := by decide +kernel
theorem dX7_host_6 : decode cX7_host 6 = .ok (.ifCond .eq 7, 3) := by decide +kernel
theorem dX7_host_9 : decode cX7_host 9 = .ok (.iconst 0, 1) := by decide +kernel
theorem dX7_host_10 : decode cX7_host 10 = .ok (.goto 4, 3) := by decide +kernel
theorem dX7_host_13 : decode cX7_host 13 = .ok (.iconst 1, 1) := by decide +kernel
theorem dX7_host_14 : decode cX7_host 14 = .ok (.putfield 98, 3) := by decide +kernel
theorem dX7_host_17 : decode cX7_host 17 = .ok (.aload_n 0, 1) := by decide +kernel
theorem dX7_host_18 : decode cX7_host 18 = .ok (.getfield 98, 3) := by decide +kernel
theorem dX7_host_21 : decode cX7_host 21 = .ok (.ifCond .le 7, 3) := by decide +kernel
theorem dX7_host_24 : decode cX7_host 24 = .ok (.iconst 0, 1) := by decide +kernel
theorem dX7_host_25 : decode cX7_host 25 = .ok (.goto 9, 3) := by decide +kernel
theorem dX7_host_28 : decode cX7_host 28 = .ok (.aload_n 0, 1) := by decide +kernel
theorem dX7_host_29 : decode cX7_host 29 = .ok (.getfield 19, 3) := by decide +kernel
theorem dX7_host_32 : decode cX7_host 32 = .ok (.iload_n 1, 1) := by decide +kernel
theorem dX7_host_33 : decode cX7_host 33 = .ok (.iaload, 1) := by decide +kernel
theorem dX7_host_34 : decode cX7_host 34 = .ok (.ireturn, 1) := by decide +kernel
theorem dX7_head_0 : decode cX7_head 0 = .ok (.aload_n 0, 1) := by decide +kernel
theorem dX7_head_1 : decode cX7_head 1 = .ok (.aload_n 0, 1) := by decide +kernel
theorem dX7_head_2 : decode cX7_head 2 = .ok (.iload_n 1, 1) := by decide +kernel
theorem dX7_head_3 : decode cX7_head 3 = .ok (.invokevirtual 109, 3) := by decide +kernel
theorem dX7_head_6 : decode cX7_head 6 = .ok (.ifCond .eq 7, 3) := by decide +kernel
theorem dX7_head_9 : decode cX7_head 9 = .ok (.iconst 0, 1) := by decide +kernel
theorem dX7_head_10 : decode cX7_head 10 = .ok (.goto 4, 3) := by decide +kernel
theorem dX7_head_13 : decode cX7_head 13 = .ok (.iconst 1, 1) := by decide +kernel
theorem dX7_head_14 : decode cX7_head 14 = .ok (.putfield 98, 3) := by decide +kernel
theorem dX7_head_17 : decode cX7_head 17 = .ok (.aload_n 0, 1) := by decide +kernel
theorem dX7_head_18 : decode cX7_head 18 = .ok (.getfield 98, 3) := by decide +kernel
theorem dX7_head_21 : decode cX7_head 21 = .ok (.ifCond .le 7, 3) := by decide +kernel
theorem dX7_head_24 : decode cX7_head 24 = .ok (.iconst 0, 1) := by decide +kernel
theorem dX7_head_25 : decode cX7_head 25 = .ok (.goto 8, 3) := by decide +kernel
theorem dX7_head_28 : decode cX7_head 28 = .ok (.aload_n 0, 1) := by decide +kernel
theorem dX7_head_29 : decode cX7_head 29 = .ok (.iload_n 1, 1) := by decide +kernel
theorem dX7_head_30 : decode cX7_head 30 = .ok (.invokevirtual 114, 3) := by decide +kernel
theorem dX7_head_33 : decode cX7_head 33 = .ok (.ireturn, 1) := by decide +kernel
theorem dX7_movesOfPart_0 : decode cX7_movesOfPart 0 = .ok (.iconst 0, 1) := by decide +kernel
theorem dX7_movesOfPart_1 : decode cX7_movesOfPart 1 = .ok (.istore_n 2, 1) := by decide +kernel
theorem dX7_movesOfPart_2 : decode cX7_movesOfPart 2 = .ok (.iconst 0, 1) := by decide +kernel
theorem dX7_movesOfPart_3 : decode cX7_movesOfPart 3 = .ok (.istore_n 3, 1) := by decide +kernel
theorem dX7_movesOfPart_4 : decode cX7_movesOfPart 4 = .ok (.iload_n 3, 1) := by decide +kernel
theorem dX7_movesOfPart_5 : decode cX7_movesOfPart 5 = .ok (.aload_n 0, 1) := by decide +kernel
theorem dX7_movesOfPart_6 : decode cX7_movesOfPart 6 = .ok (.getfield 118, 3) := by decide +kernel
theorem dX7_movesOfPart_9 : decode cX7_movesOfPart 9 = .ok (.if_icmp .ge 27, 3) := by decide +kernel
theorem dX7_movesOfPart_12 : decode cX7_movesOfPart 12 = .ok (.iload_n 2, 1) := by decide +kernel
theorem dX7_movesOfPart_13 : decode cX7_movesOfPart 13 = .ok (.aload_n 0, 1) := by decide +kernel
theorem dX7_movesOfPart_14 : decode cX7_movesOfPart 14 = .ok (.getfield 74, 3) := by decide +kernel
theorem dX7_movesOfPart_17 : decode cX7_movesOfPart 17 = .ok (.iload_n 3, 1) := by decide +kernel
theorem dX7_movesOfPart_18 : decode cX7_movesOfPart 18 = .ok (.iaload, 1) := by decide +kernel
theorem dX7_movesOfPart_19 : decode cX7_movesOfPart 19 = .ok (.iload_n 1, 1) := by decide +kernel
theorem dX7_movesOfPart_20 : decode cX7_movesOfPart 20 = .ok (.if_icmp .ne 7, 3) := by decide +kernel
theorem dX7_movesOfPart_23 : decode cX7_movesOfPart 23 = .ok (.iconst 1, 1) := by decide +kernel
theorem dX7_movesOfPart_24 : decode cX7_movesOfPart 24 = .ok (.goto 4, 3) := by decide +kernel
theorem dX7_movesOfPart_27 : decode cX7_movesOfPart 27 = .ok (.iconst 0, 1) := by decide +kernel
theorem dX7_movesOfPart_28 : decode cX7_movesOfPart 28 = .ok (.iadd, 1) := by decide +kernel
theorem dX7_movesOfPart_29 : decode cX7_movesOfPart 29 = .ok (.istore_n 2, 1) := by decide +kernel
theorem dX7_movesOfPart_30 : decode cX7_movesOfPart 30 = .ok (.iinc 3 1, 3) := by decide +kernel
theorem dX7_movesOfPart_33 : decode cX7_movesOfPart 33 = .ok (.goto (-29), 3) := by decide +kernel
theorem dX7_movesOfPart_36 : decode cX7_movesOfPart 36 = .ok (.iload_n 2, 1) := by decide +kernel
theorem dX7_movesOfPart_37 : decode cX7_movesOfPart 37 = .ok (.ireturn, 1) := by decide +kernel
theorem dX7_ofPart_0 : decode cX7_ofPart 0 = .ok (.aload_n 0, 1) := by decide +kernel
theorem dX7_ofPart_1 : decode cX7_ofPart 1 = .ok (.aload_n 0, 1) := by decide +kernel
theorem dX7_ofPart_2 : decode cX7_ofPart 2 = .ok (.iload_n 1, 1) := by decide +kernel
theorem dX7_ofPart_3 : decode cX7_ofPart 3 = .ok (.invokevirtual 109, 3) := by decide +kernel
theorem dX7_ofPart_6 : decode cX7_ofPart 6 = .ok (.ifCond .ne 7, 3) := by decide +kernel
theorem dX7_ofPart_9 : decode cX7_ofPart 9 = .ok (.iconst 1, 1) := by decide +kernel
theorem dX7_ofPart_10 : decode cX7_ofPart 10 = .ok (.goto 18, 3) := by decide +kernel
theorem dX7_ofPart_13 : decode cX7_ofPart 13 = .ok (.iload_n 2, 1) := by decide +kernel
theorem dX7_ofPart_14 : decode cX7_ofPart 14 = .ok (.iconst 0, 1) := by decide +kernel
theorem dX7_ofPart_15 : decode cX7_ofPart 15 = .ok (.bipush 8, 2) := by decide +kernel
theorem dX7_ofPart_17 : decode cX7_ofPart 17 = .ok (.invokestatic 105, 3) := by decide +kernel
theorem dX7_ofPart_20 : decode cX7_ofPart 20 = .ok (.ifCond .eq 7, 3) := by decide +kernel
theorem dX7_ofPart_23 : decode cX7_ofPart 23 = .ok (.iconst 0, 1) := by decide +kernel
theorem dX7_ofPart_24 : decode cX7_ofPart 24 = .ok (.goto 4, 3) := by decide +kernel
theorem dX7_ofPart_27 : decode cX7_ofPart 27 = .ok (.iconst 2, 1) := by decide +kernel
theorem dX7_ofPart_28 : decode cX7_ofPart 28 = .ok (.putfield 98, 3) := by decide +kernel
theorem dX7_ofPart_31 : decode cX7_ofPart 31 = .ok (.aload_n 0, 1) := by decide +kernel
theorem dX7_ofPart_32 : decode cX7_ofPart 32 = .ok (.getfield 98, 3) := by decide +kernel
theorem dX7_ofPart_35 : decode cX7_ofPart 35 = .ok (.ifCond .le 5, 3) := by decide +kernel
theorem dX7_ofPart_38 : decode cX7_ofPart 38 = .ok (.iconst 0, 1) := by decide +kernel
theorem dX7_ofPart_39 : decode cX7_ofPart 39 = .ok (.ireturn, 1) := by decide +kernel
theorem dX7_ofPart_40 : decode cX7_ofPart 40 = .ok (.iload_n 2, 1) := by decide +kernel
theorem dX7_ofPart_41 : decode cX7_ofPart 41 = .ok (.iconst 3, 1) := by decide +kernel
theorem dX7_ofPart_42 : decode cX7_ofPart 42 = .ok (.if_icmp .ge 37, 3) := by decide +kernel
theorem dX7_ofPart_45 : decode cX7_ofPart 45 = .ok (.iload_n 2, 1) := by decide +kernel
theorem dX7_ofPart_46 : decode cX7_ofPart 46 = .ok (.ifCond .ne 12, 3) := by decide +kernel
theorem dX7_ofPart_49 : decode cX7_ofPart 49 = .ok (.aload_n 0, 1) := by decide +kernel
theorem dX7_ofPart_50 : decode cX7_ofPart 50 = .ok (.getfield 7, 3) := by decide +kernel
theorem dX7_ofPart_53 : decode cX7_ofPart 53 = .ok (.iload_n 1, 1) := by decide +kernel
theorem dX7_ofPart_54 : decode cX7_ofPart 54 = .ok (.iaload, 1) := by decide +kernel
theorem dX7_ofPart_55 : decode cX7_ofPart 55 = .ok (.goto 23, 3) := by decide +kernel
theorem dX7_ofPart_58 : decode cX7_ofPart 58 = .ok (.iload_n 2, 1) := by decide +kernel
theorem dX7_ofPart_59 : decode cX7_ofPart 59 = .ok (.iconst 1, 1) := by decide +kernel
theorem dX7_ofPart_60 : decode cX7_ofPart 60 = .ok (.if_icmp .ne 12, 3) := by decide +kernel
theorem dX7_ofPart_63 : decode cX7_ofPart 63 = .ok (.aload_n 0, 1) := by decide +kernel
theorem dX7_ofPart_64 : decode cX7_ofPart 64 = .ok (.getfield 13, 3) := by decide +kernel
theorem dX7_ofPart_67 : decode cX7_ofPart 67 = .ok (.iload_n 1, 1) := by decide +kernel
theorem dX7_ofPart_68 : decode cX7_ofPart 68 = .ok (.iaload, 1) := by decide +kernel
theorem dX7_ofPart_69 : decode cX7_ofPart 69 = .ok (.goto 9, 3) := by decide +kernel
theorem dX7_ofPart_72 : decode cX7_ofPart 72 = .ok (.aload_n 0, 1) := by decide +kernel
theorem dX7_ofPart_73 : decode cX7_ofPart 73 = .ok (.getfield 16, 3) := by decide +kernel
theorem dX7_ofPart_76 : decode cX7_ofPart 76 = .ok (.iload_n 1, 1) := by decide +kernel
theorem dX7_ofPart_77 : decode cX7_ofPart 77 = .ok (.iaload, 1) := by decide +kernel
theorem dX7_ofPart_78 : decode cX7_ofPart 78 = .ok (.ireturn, 1) := by decide +kernel
theorem dX7_ofPart_79 : decode cX7_ofPart 79 = .ok (.iload_n 2, 1) := by decide +kernel
theorem dX7_ofPart_80 : decode cX7_ofPart 80 = .ok (.bipush 6, 2) := by decide +kernel
theorem dX7_ofPart_82 : decode cX7_ofPart 82 = .ok (.if_icmp .ge 38, 3) := by decide +kernel
theorem dX7_ofPart_85 : decode cX7_ofPart 85 = .ok (.iload_n 2, 1) := by decide +kernel
theorem dX7_ofPart_86 : decode cX7_ofPart 86 = .ok (.iconst 3, 1) := by decide +kernel
theorem dX7_ofPart_87 : decode cX7_ofPart 87 = .ok (.if_icmp .ne 12, 3) := by decide +kernel
theorem dX7_ofPart_90 : decode cX7_ofPart 90 = .ok (.aload_n 0, 1) := by decide +kernel
theorem dX7_ofPart_91 : decode cX7_ofPart 91 = .ok (.getfield 22, 3) := by decide +kernel
theorem dX7_ofPart_94 : decode cX7_ofPart 94 = .ok (.iload_n 1, 1) := by decide +kernel
theorem dX7_ofPart_95 : decode cX7_ofPart 95 = .ok (.iaload, 1) := by decide +kernel
theorem dX7_ofPart_96 : decode cX7_ofPart 96 = .ok (.goto 23, 3) := by decide +kernel
theorem dX7_ofPart_99 : decode cX7_ofPart 99 = .ok (.iload_n 2, 1) := by decide +kernel
theorem dX7_ofPart_100 : decode cX7_ofPart 100 = .ok (.iconst 4, 1) := by decide +kernel
theorem dX7_ofPart_101 : decode cX7_ofPart 101 = .ok (.if_icmp .ne 12, 3) := by decide +kernel
theorem dX7_ofPart_104 : decode cX7_ofPart 104 = .ok (.aload_n 0, 1) := by decide +kernel
theorem dX7_ofPart_105 : decode cX7_ofPart 105 = .ok (.getfield 25, 3) := by decide +kernel
theorem dX7_ofPart_108 : decode cX7_ofPart 108 = .ok (.iload_n 1, 1) := by decide +kernel
theorem dX7_ofPart_109 : decode cX7_ofPart 109 = .ok (.iaload, 1) := by decide +kernel
theorem dX7_ofPart_110 : decode cX7_ofPart 110 = .ok (.goto 9, 3) := by decide +kernel
theorem dX7_ofPart_113 : decode cX7_ofPart 113 = .ok (.aload_n 0, 1) := by decide +kernel
theorem dX7_ofPart_114 : decode cX7_ofPart 114 = .ok (.getfield 28, 3) := by decide +kernel
theorem dX7_ofPart_117 : decode cX7_ofPart 117 = .ok (.iload_n 1, 1) := by decide +kernel
theorem dX7_ofPart_118 : decode cX7_ofPart 118 = .ok (.iaload, 1) := by decide +kernel
theorem dX7_ofPart_119 : decode cX7_ofPart 119 = .ok (.ireturn, 1) := by decide +kernel
theorem dX7_ofPart_120 : decode cX7_ofPart 120 = .ok (.iload_n 2, 1) := by decide +kernel
theorem dX7_ofPart_121 : decode cX7_ofPart 121 = .ok (.bipush 6, 2) := by decide +kernel
theorem dX7_ofPart_123 : decode cX7_ofPart 123 = .ok (.if_icmp .ne 20, 3) := by decide +kernel
theorem dX7_ofPart_126 : decode cX7_ofPart 126 = .ok (.aload_n 0, 1) := by decide +kernel
theorem dX7_ofPart_127 : decode cX7_ofPart 127 = .ok (.getfield 31, 3) := by decide +kernel
theorem dX7_ofPart_130 : decode cX7_ofPart 130 = .ok (.iload_n 1, 1) := by decide +kernel
theorem dX7_ofPart_131 : decode cX7_ofPart 131 = .ok (.baload, 1) := by decide +kernel
theorem dX7_ofPart_132 : decode cX7_ofPart 132 = .ok (.ifCond .eq 7, 3) := by decide +kernel
theorem dX7_ofPart_135 : decode cX7_ofPart 135 = .ok (.iconst 1, 1) := by decide +kernel
theorem dX7_ofPart_136 : decode cX7_ofPart 136 = .ok (.goto 35, 3) := by decide +kernel
theorem dX7_ofPart_139 : decode cX7_ofPart 139 = .ok (.iconst 0, 1) := by decide +kernel
theorem dX7_ofPart_140 : decode cX7_ofPart 140 = .ok (.goto 31, 3) := by decide +kernel
theorem dX7_ofPart_143 : decode cX7_ofPart 143 = .ok (.iload_n 2, 1) := by decide +kernel
theorem dX7_ofPart_144 : decode cX7_ofPart 144 = .ok (.bipush 7, 2) := by decide +kernel
theorem dX7_ofPart_146 : decode cX7_ofPart 146 = .ok (.if_icmp .ne 20, 3) := by decide +kernel
theorem dX7_ofPart_149 : decode cX7_ofPart 149 = .ok (.aload_n 0, 1) := by decide +kernel
theorem dX7_ofPart_150 : decode cX7_ofPart 150 = .ok (.getfield 35, 3) := by decide +kernel
theorem dX7_ofPart_153 : decode cX7_ofPart 153 = .ok (.iload_n 1, 1) := by decide +kernel
theorem dX7_ofPart_154 : decode cX7_ofPart 154 = .ok (.baload, 1) := by decide +kernel
theorem dX7_ofPart_155 : decode cX7_ofPart 155 = .ok (.ifCond .eq 7, 3) := by decide +kernel
theorem dX7_ofPart_158 : decode cX7_ofPart 158 = .ok (.iconst 1, 1) := by decide +kernel
theorem dX7_ofPart_159 : decode cX7_ofPart 159 = .ok (.goto 12, 3) := by decide +kernel
theorem dX7_ofPart_162 : decode cX7_ofPart 162 = .ok (.iconst 0, 1) := by decide +kernel
theorem dX7_ofPart_163 : decode cX7_ofPart 163 = .ok (.goto 8, 3) := by decide +kernel
theorem dX7_ofPart_166 : decode cX7_ofPart 166 = .ok (.aload_n 0, 1) := by decide +kernel
theorem dX7_ofPart_167 : decode cX7_ofPart 167 = .ok (.iload_n 1, 1) := by decide +kernel
theorem dX7_ofPart_168 : decode cX7_ofPart 168 = .ok (.invokevirtual 196, 3) := by decide +kernel
theorem dX7_ofPart_171 : decode cX7_ofPart 171 = .ok (.ireturn, 1) := by decide +kernel
theorem dX7_trace_0 : decode cX7_trace 0 = .ok (.aload_n 0, 1) := by decide +kernel
theorem dX7_trace_1 : decode cX7_trace 1 = .ok (.aload_n 0, 1) := by decide +kernel
theorem dX7_trace_2 : decode cX7_trace 2 = .ok (.iload_n 1, 1) := by decide +kernel
theorem dX7_trace_3 : decode cX7_trace 3 = .ok (.invokevirtual 109, 3) := by decide +kernel
theorem dX7_trace_6 : decode cX7_trace 6 = .ok (.ifCond .eq 22, 3) := by decide +kernel
theorem dX7_trace_9 : decode cX7_trace 9 = .ok (.iload_n 2, 1) := by decide +kernel
theorem dX7_trace_10 : decode cX7_trace 10 = .ok (.iconst 0, 1) := by decide +kernel
theorem dX7_trace_11 : decode cX7_trace 11 = .ok (.aload_n 0, 1) := by decide +kernel
theorem dX7_trace_12 : decode cX7_trace 12 = .ok (.iload_n 1, 1) := by decide +kernel
theorem dX7_trace_13 : decode cX7_trace 13 = .ok (.invokevirtual 196, 3) := by decide +kernel
theorem dX7_trace_16 : decode cX7_trace 16 = .ok (.iconst 1, 1) := by decide +kernel
theorem dX7_trace_17 : decode cX7_trace 17 = .ok (.isub, 1) := by decide +kernel
theorem dX7_trace_18 : decode cX7_trace 18 = .ok (.invokestatic 105, 3) := by decide +kernel
theorem dX7_trace_21 : decode cX7_trace 21 = .ok (.ifCond .eq 7, 3) := by decide +kernel
theorem dX7_trace_24 : decode cX7_trace 24 = .ok (.iconst 0, 1) := by decide +kernel
theorem dX7_trace_25 : decode cX7_trace 25 = .ok (.goto 4, 3) := by decide +kernel
theorem dX7_trace_28 : decode cX7_trace 28 = .ok (.iconst 1, 1) := by decide +kernel
theorem dX7_trace_29 : decode cX7_trace 29 = .ok (.putfield 98, 3) := by decide +kernel
theorem dX7_trace_32 : decode cX7_trace 32 = .ok (.aload_n 0, 1) := by decide +kernel
theorem dX7_trace_33 : decode cX7_trace 33 = .ok (.getfield 98, 3) := by decide +kernel
theorem dX7_trace_36 : decode cX7_trace 36 = .ok (.ifCond .le 5, 3) := by decide +kernel
theorem dX7_trace_39 : decode cX7_trace 39 = .ok (.iconst 0, 1) := by decide +kernel
theorem dX7_trace_40 : decode cX7_trace 40 = .ok (.ireturn, 1) := by decide +kernel
theorem dX7_trace_41 : decode cX7_trace 41 = .ok (.iload_n 2, 1) := by decide +kernel
theorem dX7_trace_42 : decode cX7_trace 42 = .ok (.istore_n 3, 1) := by decide +kernel
theorem dX7_trace_43 : decode cX7_trace 43 = .ok (.iconst 0, 1) := by decide +kernel
theorem dX7_trace_44 : decode cX7_trace 44 = .ok (.istore 4, 2) := by decide +kernel
theorem dX7_trace_46 : decode cX7_trace 46 = .ok (.aload_n 0, 1) := by decide +kernel
theorem dX7_trace_47 : decode cX7_trace 47 = .ok (.getfield 74, 3) := by decide +kernel
theorem dX7_trace_50 : decode cX7_trace 50 = .ok (.iload 4, 2) := by decide +kernel
theorem dX7_trace_52 : decode cX7_trace 52 = .ok (.iaload, 1) := by decide +kernel
theorem dX7_trace_53 : decode cX7_trace 53 = .ok (.iload_n 1, 1) := by decide +kernel
theorem dX7_trace_54 : decode cX7_trace 54 = .ok (.if_icmp .ne 7, 3) := by decide +kernel
theorem dX7_trace_57 : decode cX7_trace 57 = .ok (.iload_n 3, 1) := by decide +kernel
theorem dX7_trace_58 : decode cX7_trace 58 = .ok (.ifCond .le 28, 3) := by decide +kernel
theorem dX7_trace_61 : decode cX7_trace 61 = .ok (.iload_n 3, 1) := by decide +kernel
theorem dX7_trace_62 : decode cX7_trace 62 = .ok (.aload_n 0, 1) := by decide +kernel
theorem dX7_trace_63 : decode cX7_trace 63 = .ok (.getfield 74, 3) := by decide +kernel
theorem dX7_trace_66 : decode cX7_trace 66 = .ok (.iload 4, 2) := by decide +kernel
theorem dX7_trace_68 : decode cX7_trace 68 = .ok (.iaload, 1) := by decide +kernel
theorem dX7_trace_69 : decode cX7_trace 69 = .ok (.iload_n 1, 1) := by decide +kernel
theorem dX7_trace_70 : decode cX7_trace 70 = .ok (.if_icmp .ne 7, 3) := by decide +kernel
theorem dX7_trace_73 : decode cX7_trace 73 = .ok (.iconst 1, 1) := by decide +kernel
theorem dX7_trace_74 : decode cX7_trace 74 = .ok (.goto 4, 3) := by decide +kernel
theorem dX7_trace_77 : decode cX7_trace 77 = .ok (.iconst 0, 1) := by decide +kernel
theorem dX7_trace_78 : decode cX7_trace 78 = .ok (.isub, 1) := by decide +kernel
theorem dX7_trace_79 : decode cX7_trace 79 = .ok (.istore_n 3, 1) := by decide +kernel
theorem dX7_trace_80 : decode cX7_trace 80 = .ok (.iinc 4 1, 3) := by decide +kernel
theorem dX7_trace_83 : decode cX7_trace 83 = .ok (.goto (-37), 3) := by decide +kernel
theorem dX7_trace_86 : decode cX7_trace 86 = .ok (.aload_n 0, 1) := by decide +kernel
theorem dX7_trace_87 : decode cX7_trace 87 = .ok (.getfield 77, 3) := by decide +kernel
theorem dX7_trace_90 : decode cX7_trace 90 = .ok (.iload 4, 2) := by decide +kernel
theorem dX7_trace_92 : decode cX7_trace 92 = .ok (.iaload, 1) := by decide +kernel
theorem dX7_trace_93 : decode cX7_trace 93 = .ok (.ireturn, 1) := by decide +kernel
theorem dX7_lifeAnew_0 : decode cX7_lifeAnew 0 = .ok (.aload_n 0, 1) := by decide +kernel
theorem dX7_lifeAnew_1 : decode cX7_lifeAnew 1 = .ok (.aload_n 0, 1) := by decide +kernel
theorem dX7_lifeAnew_2 : decode cX7_lifeAnew 2 = .ok (.iload_n 1, 1) := by decide +kernel
theorem dX7_lifeAnew_3 : decode cX7_lifeAnew 3 = .ok (.invokevirtual 109, 3) := by decide +kernel
theorem dX7_lifeAnew_6 : decode cX7_lifeAnew 6 = .ok (.ifCond .eq 7, 3) := by decide +kernel
theorem dX7_lifeAnew_9 : decode cX7_lifeAnew 9 = .ok (.iconst 0, 1) := by decide +kernel
theorem dX7_lifeAnew_10 : decode cX7_lifeAnew 10 = .ok (.goto 4, 3) := by decide +kernel
theorem dX7_lifeAnew_13 : decode cX7_lifeAnew 13 = .ok (.iconst 1, 1) := by decide +kernel
theorem dX7_lifeAnew_14 : decode cX7_lifeAnew 14 = .ok (.putfield 98, 3) := by decide +kernel
theorem dX7_lifeAnew_17 : decode cX7_lifeAnew 17 = .ok (.aload_n 0, 1) := by decide +kernel
theorem dX7_lifeAnew_18 : decode cX7_lifeAnew 18 = .ok (.getfield 98, 3) := by decide +kernel
theorem dX7_lifeAnew_21 : decode cX7_lifeAnew 21 = .ok (.ifCond .le 7, 3) := by decide +kernel
theorem dX7_lifeAnew_24 : decode cX7_lifeAnew 24 = .ok (.iconst 0, 1) := by decide +kernel
theorem dX7_lifeAnew_25 : decode cX7_lifeAnew 25 = .ok (.goto 9, 3) := by decide +kernel
theorem dX7_lifeAnew_28 : decode cX7_lifeAnew 28 = .ok (.aload_n 0, 1) := by decide +kernel
theorem dX7_lifeAnew_29 : decode cX7_lifeAnew 29 = .ok (.getfield 22, 3) := by decide +kernel
theorem dX7_lifeAnew_32 : decode cX7_lifeAnew 32 = .ok (.iload_n 1, 1) := by decide +kernel
theorem dX7_lifeAnew_33 : decode cX7_lifeAnew 33 = .ok (.iaload, 1) := by decide +kernel
theorem dX7_lifeAnew_34 : decode cX7_lifeAnew 34 = .ok (.ireturn, 1) := by decide +kernel
theorem dX7_wheel_0 : decode cX7_wheel 0 = .ok (.aload_n 0, 1) := by decide +kernel
theorem dX7_wheel_1 : decode cX7_wheel 1 = .ok (.aload_n 0, 1) := by decide +kernel
theorem dX7_wheel_2 : decode cX7_wheel 2 = .ok (.iload_n 1, 1) := by decide +kernel
theorem dX7_wheel_3 : decode cX7_wheel 3 = .ok (.iconst 3, 1) := by decide +kernel
theorem dX7_wheel_4 : decode cX7_wheel 4 = .ok (.invokevirtual 148, 3) := by decide +kernel
theorem dX7_wheel_7 : decode cX7_wheel 7 = .ok (.putfield 98, 3) := by decide +kernel
theorem dX7_wheel_10 : decode cX7_wheel 10 = .ok (.aload_n 0, 1) := by decide +kernel
theorem dX7_wheel_11 : decode cX7_wheel 11 = .ok (.aload_n 0, 1) := by decide +kernel
theorem dX7_wheel_12 : decode cX7_wheel 12 = .ok (.getfield 98, 3) := by decide +kernel
theorem dX7_wheel_15 : decode cX7_wheel 15 = .ok (.ifCond .ne 16, 3) := by decide +kernel
theorem dX7_wheel_18 : decode cX7_wheel 18 = .ok (.iload_n 2, 1) := by decide +kernel
theorem dX7_wheel_19 : decode cX7_wheel 19 = .ok (.iconst 0, 1) := by decide +kernel
theorem dX7_wheel_20 : decode cX7_wheel 20 = .ok (.iconst 2, 1) := by decide +kernel
theorem dX7_wheel_21 : decode cX7_wheel 21 = .ok (.invokestatic 105, 3) := by decide +kernel
theorem dX7_wheel_24 : decode cX7_wheel 24 = .ok (.ifCond .ne 7, 3) := by decide +kernel
theorem dX7_wheel_27 : decode cX7_wheel 27 = .ok (.iconst 2, 1) := by decide +kernel
theorem dX7_wheel_28 : decode cX7_wheel 28 = .ok (.goto 7, 3) := by decide +kernel
theorem dX7_wheel_31 : decode cX7_wheel 31 = .ok (.aload_n 0, 1) := by decide +kernel
theorem dX7_wheel_32 : decode cX7_wheel 32 = .ok (.getfield 98, 3) := by decide +kernel
theorem dX7_wheel_35 : decode cX7_wheel 35 = .ok (.putfield 98, 3) := by decide +kernel
theorem dX7_wheel_38 : decode cX7_wheel 38 = .ok (.aload_n 0, 1) := by decide +kernel
theorem dX7_wheel_39 : decode cX7_wheel 39 = .ok (.getfield 98, 3) := by decide +kernel
theorem dX7_wheel_42 : decode cX7_wheel 42 = .ok (.ifCond .le 5, 3) := by decide +kernel
theorem dX7_wheel_45 : decode cX7_wheel 45 = .ok (.iconst 0, 1) := by decide +kernel
theorem dX7_wheel_46 : decode cX7_wheel 46 = .ok (.ireturn, 1) := by decide +kernel
theorem dX7_wheel_47 : decode cX7_wheel 47 = .ok (.iload_n 2, 1) := by decide +kernel
theorem dX7_wheel_48 : decode cX7_wheel 48 = .ok (.ifCond .ne 12, 3) := by decide +kernel
theorem dX7_wheel_51 : decode cX7_wheel 51 = .ok (.aload_n 0, 1) := by decide +kernel
theorem dX7_wheel_52 : decode cX7_wheel 52 = .ok (.getfield 44, 3) := by decide +kernel
theorem dX7_wheel_55 : decode cX7_wheel 55 = .ok (.iload_n 1, 1) := by decide +kernel
theorem dX7_wheel_56 : decode cX7_wheel 56 = .ok (.iaload, 1) := by decide +kernel
theorem dX7_wheel_57 : decode cX7_wheel 57 = .ok (.goto 36, 3) := by decide +kernel
theorem dX7_wheel_60 : decode cX7_wheel 60 = .ok (.iload_n 2, 1) := by decide +kernel
theorem dX7_wheel_61 : decode cX7_wheel 61 = .ok (.iconst 1, 1) := by decide +kernel
theorem dX7_wheel_62 : decode cX7_wheel 62 = .ok (.if_icmp .ne 12, 3) := by decide +kernel
theorem dX7_wheel_65 : decode cX7_wheel 65 = .ok (.aload_n 0, 1) := by decide +kernel
theorem dX7_wheel_66 : decode cX7_wheel 66 = .ok (.getfield 47, 3) := by decide +kernel
theorem dX7_wheel_69 : decode cX7_wheel 69 = .ok (.iload_n 1, 1) := by decide +kernel
theorem dX7_wheel_70 : decode cX7_wheel 70 = .ok (.iaload, 1) := by decide +kernel
theorem dX7_wheel_71 : decode cX7_wheel 71 = .ok (.goto 22, 3) := by decide +kernel
theorem dX7_wheel_74 : decode cX7_wheel 74 = .ok (.aload_n 0, 1) := by decide +kernel
theorem dX7_wheel_75 : decode cX7_wheel 75 = .ok (.getfield 56, 3) := by decide +kernel
theorem dX7_wheel_78 : decode cX7_wheel 78 = .ok (.iload_n 1, 1) := by decide +kernel
theorem dX7_wheel_79 : decode cX7_wheel 79 = .ok (.baload, 1) := by decide +kernel
theorem dX7_wheel_80 : decode cX7_wheel 80 = .ok (.ifCond .eq 12, 3) := by decide +kernel
theorem dX7_wheel_83 : decode cX7_wheel 83 = .ok (.aload_n 0, 1) := by decide +kernel
theorem dX7_wheel_84 : decode cX7_wheel 84 = .ok (.getfield 53, 3) := by decide +kernel
theorem dX7_wheel_87 : decode cX7_wheel 87 = .ok (.iload_n 1, 1) := by decide +kernel
theorem dX7_wheel_88 : decode cX7_wheel 88 = .ok (.iaload, 1) := by decide +kernel
theorem dX7_wheel_89 : decode cX7_wheel 89 = .ok (.goto 4, 3) := by decide +kernel
theorem dX7_wheel_92 : decode cX7_wheel 92 = .ok (.iconst (-1), 1) := by decide +kernel
theorem dX7_wheel_93 : decode cX7_wheel 93 = .ok (.ireturn, 1) := by decide +kernel
theorem dX7_foretell_0 : decode cX7_foretell 0 = .ok (.aload_n 0, 1) := by decide +kernel
theorem dX7_foretell_1 : decode cX7_foretell 1 = .ok (.aload_n 0, 1) := by decide +kernel
theorem dX7_foretell_2 : decode cX7_foretell 2 = .ok (.iload_n 1, 1) := by decide +kernel
theorem dX7_foretell_3 : decode cX7_foretell 3 = .ok (.iconst 3, 1) := by decide +kernel
theorem dX7_foretell_4 : decode cX7_foretell 4 = .ok (.invokevirtual 148, 3) := by decide +kernel
theorem dX7_foretell_7 : decode cX7_foretell 7 = .ok (.putfield 98, 3) := by decide +kernel
theorem dX7_foretell_10 : decode cX7_foretell 10 = .ok (.aload_n 0, 1) := by decide +kernel
theorem dX7_foretell_11 : decode cX7_foretell 11 = .ok (.aload_n 0, 1) := by decide +kernel
theorem dX7_foretell_12 : decode cX7_foretell 12 = .ok (.getfield 98, 3) := by decide +kernel
theorem dX7_foretell_15 : decode cX7_foretell 15 = .ok (.ifCond .ne 27, 3) := by decide +kernel
theorem dX7_foretell_18 : decode cX7_foretell 18 = .ok (.iload_n 2, 1) := by decide +kernel
theorem dX7_foretell_19 : decode cX7_foretell 19 = .ok (.iconst 1, 1) := by decide +kernel
theorem dX7_foretell_20 : decode cX7_foretell 20 = .ok (.sipush 2000, 3) := by decide +kernel
theorem dX7_foretell_23 : decode cX7_foretell 23 = .ok (.invokestatic 105, 3) := by decide +kernel
theorem dX7_foretell_26 : decode cX7_foretell 26 = .ok (.ifCond .eq 12, 3) := by decide +kernel
theorem dX7_foretell_29 : decode cX7_foretell 29 = .ok (.iload_n 3, 1) := by decide +kernel
theorem dX7_foretell_30 : decode cX7_foretell 30 = .ok (.iconst 0, 1) := by decide +kernel
theorem dX7_foretell_31 : decode cX7_foretell 31 = .ok (.iconst 3, 1) := by decide +kernel
theorem dX7_foretell_32 : decode cX7_foretell 32 = .ok (.invokestatic 105, 3) := by decide +kernel
theorem dX7_foretell_35 : decode cX7_foretell 35 = .ok (.ifCond .ne 7, 3) := by decide +kernel
theorem dX7_foretell_38 : decode cX7_foretell 38 = .ok (.iconst 2, 1) := by decide +kernel
theorem dX7_foretell_39 : decode cX7_foretell 39 = .ok (.goto 7, 3) := by decide +kernel
theorem dX7_foretell_42 : decode cX7_foretell 42 = .ok (.aload_n 0, 1) := by decide +kernel
theorem dX7_foretell_43 : decode cX7_foretell 43 = .ok (.getfield 98, 3) := by decide +kernel
theorem dX7_foretell_46 : decode cX7_foretell 46 = .ok (.putfield 98, 3) := by decide +kernel
theorem dX7_foretell_49 : decode cX7_foretell 49 = .ok (.aload_n 0, 1) := by decide +kernel
theorem dX7_foretell_50 : decode cX7_foretell 50 = .ok (.getfield 98, 3) := by decide +kernel
theorem dX7_foretell_53 : decode cX7_foretell 53 = .ok (.ifCond .le 5, 3) := by decide +kernel
theorem dX7_foretell_56 : decode cX7_foretell 56 = .ok (.iconst 0, 1) := by decide +kernel
theorem dX7_foretell_57 : decode cX7_foretell 57 = .ok (.ireturn, 1) := by decide +kernel
theorem dX7_foretell_58 : decode cX7_foretell 58 = .ok (.aload_n 0, 1) := by decide +kernel
theorem dX7_foretell_59 : decode cX7_foretell 59 = .ok (.getfield 53, 3) := by decide +kernel
theorem dX7_foretell_62 : decode cX7_foretell 62 = .ok (.iload_n 1, 1) := by decide +kernel
theorem dX7_foretell_63 : decode cX7_foretell 63 = .ok (.iaload, 1) := by decide +kernel
theorem dX7_foretell_64 : decode cX7_foretell 64 = .ok (.sipush 250, 3) := by decide +kernel
theorem dX7_foretell_67 : decode cX7_foretell 67 = .ok (.isub, 1) := by decide +kernel
theorem dX7_foretell_68 : decode cX7_foretell 68 = .ok (.istore 4, 2) := by decide +kernel
theorem dX7_foretell_70 : decode cX7_foretell 70 = .ok (.aload_n 0, 1) := by decide +kernel
theorem dX7_foretell_71 : decode cX7_foretell 71 = .ok (.getfield 56, 3) := by decide +kernel
theorem dX7_foretell_74 : decode cX7_foretell 74 = .ok (.iload_n 1, 1) := by decide +kernel
theorem dX7_foretell_75 : decode cX7_foretell 75 = .ok (.baload, 1) := by decide +kernel
theorem dX7_foretell_76 : decode cX7_foretell 76 = .ok (.ifCond .ne 7, 3) := by decide +kernel
theorem dX7_foretell_79 : decode cX7_foretell 79 = .ok (.iconst (-1), 1) := by decide +kernel
theorem dX7_foretell_80 : decode cX7_foretell 80 = .ok (.goto 25, 3) := by decide +kernel
theorem dX7_foretell_83 : decode cX7_foretell 83 = .ok (.iload 4, 2) := by decide +kernel
theorem dX7_foretell_85 : decode cX7_foretell 85 = .ok (.ifCond .gt 7, 3) := by decide +kernel
theorem dX7_foretell_88 : decode cX7_foretell 88 = .ok (.iconst 0, 1) := by decide +kernel
theorem dX7_foretell_89 : decode cX7_foretell 89 = .ok (.goto 16, 3) := by decide +kernel
theorem dX7_foretell_92 : decode cX7_foretell 92 = .ok (.iload 4, 2) := by decide +kernel
theorem dX7_foretell_94 : decode cX7_foretell 94 = .ok (.sipush 200, 3) := by decide +kernel
theorem dX7_foretell_97 : decode cX7_foretell 97 = .ok (.imul, 1) := by decide +kernel
theorem dX7_foretell_98 : decode cX7_foretell 98 = .ok (.iload_n 2, 1) := by decide +kernel
theorem dX7_foretell_99 : decode cX7_foretell 99 = .ok (.iload_n 3, 1) := by decide +kernel
theorem dX7_foretell_100 : decode cX7_foretell 100 = .ok (.invokestatic 145, 3) := by decide +kernel
theorem dX7_foretell_103 : decode cX7_foretell 103 = .ok (.imul, 1) := by decide +kernel
theorem dX7_foretell_104 : decode cX7_foretell 104 = .ok (.idiv, 1) := by decide +kernel
theorem dX7_foretell_105 : decode cX7_foretell 105 = .ok (.ireturn, 1) := by decide +kernel
theorem dX7_bars_0 : decode cX7_bars 0 = .ok (.aload_n 0, 1) := by decide +kernel
theorem dX7_bars_1 : decode cX7_bars 1 = .ok (.aload_n 0, 1) := by decide +kernel
theorem dX7_bars_2 : decode cX7_bars 2 = .ok (.iload_n 1, 1) := by decide +kernel
theorem dX7_bars_3 : decode cX7_bars 3 = .ok (.iconst 0, 1) := by decide +kernel
theorem dX7_bars_4 : decode cX7_bars 4 = .ok (.invokevirtual 148, 3) := by decide +kernel
theorem dX7_bars_7 : decode cX7_bars 7 = .ok (.putfield 98, 3) := by decide +kernel
theorem dX7_bars_10 : decode cX7_bars 10 = .ok (.aload_n 0, 1) := by decide +kernel
theorem dX7_bars_11 : decode cX7_bars 11 = .ok (.getfield 98, 3) := by decide +kernel
theorem dX7_bars_14 : decode cX7_bars 14 = .ok (.ifCond .le 7, 3) := by decide +kernel
theorem dX7_bars_17 : decode cX7_bars 17 = .ok (.iconst 0, 1) := by decide +kernel
theorem dX7_bars_18 : decode cX7_bars 18 = .ok (.goto 11, 3) := by decide +kernel
theorem dX7_bars_21 : decode cX7_bars 21 = .ok (.aload_n 0, 1) := by decide +kernel
theorem dX7_bars_22 : decode cX7_bars 22 = .ok (.iload_n 1, 1) := by decide +kernel
theorem dX7_bars_23 : decode cX7_bars 23 = .ok (.invokevirtual 186, 3) := by decide +kernel
theorem dX7_bars_26 : decode cX7_bars 26 = .ok (.bipush 100, 2) := by decide +kernel
theorem dX7_bars_28 : decode cX7_bars 28 = .ok (.idiv, 1) := by decide +kernel
theorem dX7_bars_29 : decode cX7_bars 29 = .ok (.ireturn, 1) := by decide +kernel
theorem dX7_barredBy_0 : decode cX7_barredBy 0 = .ok (.aload_n 0, 1) := by decide +kernel
theorem dX7_barredBy_1 : decode cX7_barredBy 1 = .ok (.aload_n 0, 1) := by decide +kernel
theorem dX7_barredBy_2 : decode cX7_barredBy 2 = .ok (.iload_n 1, 1) := by decide +kernel
theorem dX7_barredBy_3 : decode cX7_barredBy 3 = .ok (.iconst 0, 1) := by decide +kernel
theorem dX7_barredBy_4 : decode cX7_barredBy 4 = .ok (.invokevirtual 148, 3) := by decide +kernel
theorem dX7_barredBy_7 : decode cX7_barredBy 7 = .ok (.putfield 98, 3) := by decide +kernel
theorem dX7_barredBy_10 : decode cX7_barredBy 10 = .ok (.aload_n 0, 1) := by decide +kernel
theorem dX7_barredBy_11 : decode cX7_barredBy 11 = .ok (.getfield 98, 3) := by decide +kernel
theorem dX7_barredBy_14 : decode cX7_barredBy 14 = .ok (.ifCond .le 5, 3) := by decide +kernel
theorem dX7_barredBy_17 : decode cX7_barredBy 17 = .ok (.iconst 0, 1) := by decide +kernel
theorem dX7_barredBy_18 : decode cX7_barredBy 18 = .ok (.ireturn, 1) := by decide +kernel
theorem dX7_barredBy_19 : decode cX7_barredBy 19 = .ok (.aload_n 0, 1) := by decide +kernel
theorem dX7_barredBy_20 : decode cX7_barredBy 20 = .ok (.iload_n 1, 1) := by decide +kernel
theorem dX7_barredBy_21 : decode cX7_barredBy 21 = .ok (.invokevirtual 186, 3) := by decide +kernel
theorem dX7_barredBy_24 : decode cX7_barredBy 24 = .ok (.istore_n 2, 1) := by decide +kernel
theorem dX7_barredBy_25 : decode cX7_barredBy 25 = .ok (.iload_n 2, 1) := by decide +kernel
theorem dX7_barredBy_26 : decode cX7_barredBy 26 = .ok (.ifCond .ne 7, 3) := by decide +kernel
theorem dX7_barredBy_29 : decode cX7_barredBy 29 = .ok (.iconst (-1), 1) := by decide +kernel
theorem dX7_barredBy_30 : decode cX7_barredBy 30 = .ok (.goto 7, 3) := by decide +kernel
theorem dX7_barredBy_33 : decode cX7_barredBy 33 = .ok (.iload_n 2, 1) := by decide +kernel
theorem dX7_barredBy_34 : decode cX7_barredBy 34 = .ok (.bipush 100, 2) := by decide +kernel
theorem dX7_barredBy_36 : decode cX7_barredBy 36 = .ok (.irem, 1) := by decide +kernel
theorem dX7_barredBy_37 : decode cX7_barredBy 37 = .ok (.ireturn, 1) := by decide +kernel
theorem dX7_isReleased_0 : decode cX7_isReleased 0 = .ok (.aload_n 0, 1) := by decide +kernel
theorem dX7_isReleased_1 : decode cX7_isReleased 1 = .ok (.aload_n 0, 1) := by decide +kernel
theorem dX7_isReleased_2 : decode cX7_isReleased 2 = .ok (.iload_n 1, 1) := by decide +kernel
theorem dX7_isReleased_3 : decode cX7_isReleased 3 = .ok (.iconst 0, 1) := by decide +kernel
theorem dX7_isReleased_4 : decode cX7_isReleased 4 = .ok (.invokevirtual 148, 3) := by decide +kernel
theorem dX7_isReleased_7 : decode cX7_isReleased 7 = .ok (.putfield 98, 3) := by decide +kernel
theorem dX7_isReleased_10 : decode cX7_isReleased 10 = .ok (.aload_n 0, 1) := by decide +kernel
theorem dX7_isReleased_11 : decode cX7_isReleased 11 = .ok (.getfield 98, 3) := by decide +kernel
theorem dX7_isReleased_14 : decode cX7_isReleased 14 = .ok (.ifCond .ne 16, 3) := by decide +kernel
theorem dX7_isReleased_17 : decode cX7_isReleased 17 = .ok (.aload_n 0, 1) := by decide +kernel
theorem dX7_isReleased_18 : decode cX7_isReleased 18 = .ok (.getfield 38, 3) := by decide +kernel
theorem dX7_isReleased_21 : decode cX7_isReleased 21 = .ok (.iload_n 1, 1) := by decide +kernel
theorem dX7_isReleased_22 : decode cX7_isReleased 22 = .ok (.baload, 1) := by decide +kernel
theorem dX7_isReleased_23 : decode cX7_isReleased 23 = .ok (.ifCond .eq 7, 3) := by decide +kernel
theorem dX7_isReleased_26 : decode cX7_isReleased 26 = .ok (.iconst 1, 1) := by decide +kernel
theorem dX7_isReleased_27 : decode cX7_isReleased 27 = .ok (.goto 4, 3) := by decide +kernel
theorem dX7_isReleased_30 : decode cX7_isReleased 30 = .ok (.iconst 0, 1) := by decide +kernel
theorem dX7_isReleased_31 : decode cX7_isReleased 31 = .ok (.ireturn, 1) := by decide +kernel
theorem dX7_plan_0 : decode cX7_plan 0 = .ok (.aload_n 0, 1) := by decide +kernel
theorem dX7_plan_1 : decode cX7_plan 1 = .ok (.iconst 0, 1) := by decide +kernel
theorem dX7_plan_2 : decode cX7_plan 2 = .ok (.putfield 98, 3) := by decide +kernel
theorem dX7_plan_5 : decode cX7_plan 5 = .ok (.aload_n 0, 1) := by decide +kernel
theorem dX7_plan_6 : decode cX7_plan 6 = .ok (.getfield 139, 3) := by decide +kernel
theorem dX7_plan_9 : decode cX7_plan 9 = .ok (.ifCond .ne 7, 3) := by decide +kernel
theorem dX7_plan_12 : decode cX7_plan 12 = .ok (.iconst 0, 1) := by decide +kernel
theorem dX7_plan_13 : decode cX7_plan 13 = .ok (.goto 7, 3) := by decide +kernel
theorem dX7_plan_16 : decode cX7_plan 16 = .ok (.aload_n 0, 1) := by decide +kernel
theorem dX7_plan_17 : decode cX7_plan 17 = .ok (.invokevirtual 193, 3) := by decide +kernel
theorem dX7_plan_20 : decode cX7_plan 20 = .ok (.ireturn, 1) := by decide +kernel
theorem dX7_planAnew_0 : decode cX7_planAnew 0 = .ok (.aload_n 0, 1) := by decide +kernel
theorem dX7_planAnew_1 : decode cX7_planAnew 1 = .ok (.iconst 0, 1) := by decide +kernel
theorem dX7_planAnew_2 : decode cX7_planAnew 2 = .ok (.putfield 98, 3) := by decide +kernel
theorem dX7_planAnew_5 : decode cX7_planAnew 5 = .ok (.aload_n 0, 1) := by decide +kernel
theorem dX7_planAnew_6 : decode cX7_planAnew 6 = .ok (.getfield 139, 3) := by decide +kernel
theorem dX7_planAnew_9 : decode cX7_planAnew 9 = .ok (.ifCond .ne 7, 3) := by decide +kernel
theorem dX7_planAnew_12 : decode cX7_planAnew 12 = .ok (.iconst 0, 1) := by decide +kernel
theorem dX7_planAnew_13 : decode cX7_planAnew 13 = .ok (.goto 7, 3) := by decide +kernel
theorem dX7_planAnew_16 : decode cX7_planAnew 16 = .ok (.aload_n 0, 1) := by decide +kernel
theorem dX7_planAnew_17 : decode cX7_planAnew 17 = .ok (.invokevirtual 193, 3) := by decide +kernel
theorem dX7_planAnew_20 : decode cX7_planAnew 20 = .ok (.ireturn, 1) := by decide +kernel
theorem dX7_road_0 : decode cX7_road 0 = .ok (.aload_n 0, 1) := by decide +kernel
theorem dX7_road_1 : decode cX7_road 1 = .ok (.iload_n 1, 1) := by decide +kernel
theorem dX7_road_2 : decode cX7_road 2 = .ok (.iconst 0, 1) := by decide +kernel
theorem dX7_road_3 : decode cX7_road 3 = .ok (.iconst 2, 1) := by decide +kernel
theorem dX7_road_4 : decode cX7_road 4 = .ok (.invokestatic 105, 3) := by decide +kernel
theorem dX7_road_7 : decode cX7_road 7 = .ok (.ifCond .eq 11, 3) := by decide +kernel
theorem dX7_road_10 : decode cX7_road 10 = .ok (.iload_n 2, 1) := by decide +kernel
theorem dX7_road_11 : decode cX7_road 11 = .ok (.ifCond .lt 7, 3) := by decide +kernel
theorem dX7_road_14 : decode cX7_road 14 = .ok (.iconst 0, 1) := by decide +kernel
theorem dX7_road_15 : decode cX7_road 15 = .ok (.goto 4, 3) := by decide +kernel
theorem dX7_road_18 : decode cX7_road 18 = .ok (.iconst 1, 1) := by decide +kernel
theorem dX7_road_19 : decode cX7_road 19 = .ok (.putfield 98, 3) := by decide +kernel
theorem dX7_road_22 : decode cX7_road 22 = .ok (.aload_n 0, 1) := by decide +kernel
theorem dX7_road_23 : decode cX7_road 23 = .ok (.getfield 98, 3) := by decide +kernel
theorem dX7_road_26 : decode cX7_road 26 = .ok (.ifCond .le 5, 3) := by decide +kernel
theorem dX7_road_29 : decode cX7_road 29 = .ok (.iconst 0, 1) := by decide +kernel
theorem dX7_road_30 : decode cX7_road 30 = .ok (.ireturn, 1) := by decide +kernel
theorem dX7_road_31 : decode cX7_road 31 = .ok (.iload_n 2, 1) := by decide +kernel
theorem dX7_road_32 : decode cX7_road 32 = .ok (.aload_n 0, 1) := by decide +kernel
theorem dX7_road_33 : decode cX7_road 33 = .ok (.getfield 92, 3) := by decide +kernel
theorem dX7_road_36 : decode cX7_road 36 = .ok (.iload_n 1, 1) := by decide +kernel
theorem dX7_road_37 : decode cX7_road 37 = .ok (.iaload, 1) := by decide +kernel
theorem dX7_road_38 : decode cX7_road 38 = .ok (.if_icmp .ge 16, 3) := by decide +kernel
theorem dX7_road_41 : decode cX7_road 41 = .ok (.aload_n 0, 1) := by decide +kernel
theorem dX7_road_42 : decode cX7_road 42 = .ok (.getfield 95, 3) := by decide +kernel
theorem dX7_road_45 : decode cX7_road 45 = .ok (.iconst 4, 1) := by decide +kernel
theorem dX7_road_46 : decode cX7_road 46 = .ok (.iload_n 1, 1) := by decide +kernel
theorem dX7_road_47 : decode cX7_road 47 = .ok (.imul, 1) := by decide +kernel
theorem dX7_road_48 : decode cX7_road 48 = .ok (.iload_n 2, 1) := by decide +kernel
theorem dX7_road_49 : decode cX7_road 49 = .ok (.iadd, 1) := by decide +kernel
theorem dX7_road_50 : decode cX7_road 50 = .ok (.iaload, 1) := by decide +kernel
theorem dX7_road_51 : decode cX7_road 51 = .ok (.goto 4, 3) := by decide +kernel
theorem dX7_road_54 : decode cX7_road 54 = .ok (.iconst (-1), 1) := by decide +kernel
theorem dX7_road_55 : decode cX7_road 55 = .ok (.ireturn, 1) := by decide +kernel
theorem dJ6_bitCount_0f7a4_0 : decode cJ6_bitCount_0f7a4 0 = .ok (.iload_n 0, 1) := by decide +kernel
theorem dJ6_bitCount_0f7a4_1 : decode cJ6_bitCount_0f7a4 1 = .ok (.iload_n 0, 1) := by decide +kernel
theorem dJ6_bitCount_0f7a4_2 : decode cJ6_bitCount_0f7a4 2 = .ok (.iconst 1, 1) := by decide +kernel
theorem dJ6_bitCount_0f7a4_3 : decode cJ6_bitCount_0f7a4 3 = .ok (.iushr, 1) := by decide +kernel
theorem dJ6_bitCount_0f7a4_4 : decode cJ6_bitCount_0f7a4 4 = .ok (.ldc_w 265, 3) := by decide +kernel
theorem dJ6_bitCount_0f7a4_7 : decode cJ6_bitCount_0f7a4 7 = .ok (.iand, 1) := by decide +kernel
theorem dJ6_bitCount_0f7a4_8 : decode cJ6_bitCount_0f7a4 8 = .ok (.isub, 1) := by decide +kernel
theorem dJ6_bitCount_0f7a4_9 : decode cJ6_bitCount_0f7a4 9 = .ok (.istore_n 0, 1) := by decide +kernel
theorem dJ6_bitCount_0f7a4_10 : decode cJ6_bitCount_0f7a4 10 = .ok (.iload_n 0, 1) := by decide +kernel
theorem dJ6_bitCount_0f7a4_11 : decode cJ6_bitCount_0f7a4 11 = .ok (.ldc_w 266, 3) := by decide +kernel
theorem dJ6_bitCount_0f7a4_14 : decode cJ6_bitCount_0f7a4 14 = .ok (.iand, 1) := by decide +kernel
theorem dJ6_bitCount_0f7a4_15 : decode cJ6_bitCount_0f7a4 15 = .ok (.iload_n 0, 1) := by decide +kernel
theorem dJ6_bitCount_0f7a4_16 : decode cJ6_bitCount_0f7a4 16 = .ok (.iconst 2, 1) := by decide +kernel
theorem dJ6_bitCount_0f7a4_17 : decode cJ6_bitCount_0f7a4 17 = .ok (.iushr, 1) := by decide +kernel
theorem dJ6_bitCount_0f7a4_18 : decode cJ6_bitCount_0f7a4 18 = .ok (.ldc_w 266, 3) := by decide +kernel
theorem dJ6_bitCount_0f7a4_21 : decode cJ6_bitCount_0f7a4 21 = .ok (.iand, 1) := by decide +kernel
theorem dJ6_bitCount_0f7a4_22 : decode cJ6_bitCount_0f7a4 22 = .ok (.iadd, 1) := by decide +kernel
theorem dJ6_bitCount_0f7a4_23 : decode cJ6_bitCount_0f7a4 23 = .ok (.istore_n 0, 1) := by decide +kernel
theorem dJ6_bitCount_0f7a4_24 : decode cJ6_bitCount_0f7a4 24 = .ok (.iload_n 0, 1) := by decide +kernel
theorem dJ6_bitCount_0f7a4_25 : decode cJ6_bitCount_0f7a4 25 = .ok (.iload_n 0, 1) := by decide +kernel
theorem dJ6_bitCount_0f7a4_26 : decode cJ6_bitCount_0f7a4 26 = .ok (.iconst 4, 1) := by decide +kernel
theorem dJ6_bitCount_0f7a4_27 : decode cJ6_bitCount_0f7a4 27 = .ok (.iushr, 1) := by decide +kernel
theorem dJ6_bitCount_0f7a4_28 : decode cJ6_bitCount_0f7a4 28 = .ok (.iadd, 1) := by decide +kernel
theorem dJ6_bitCount_0f7a4_29 : decode cJ6_bitCount_0f7a4 29 = .ok (.ldc_w 267, 3) := by decide +kernel
theorem dJ6_bitCount_0f7a4_32 : decode cJ6_bitCount_0f7a4 32 = .ok (.iand, 1) := by decide +kernel
theorem dJ6_bitCount_0f7a4_33 : decode cJ6_bitCount_0f7a4 33 = .ok (.istore_n 0, 1) := by decide +kernel
theorem dJ6_bitCount_0f7a4_34 : decode cJ6_bitCount_0f7a4 34 = .ok (.iload_n 0, 1) := by decide +kernel
theorem dJ6_bitCount_0f7a4_35 : decode cJ6_bitCount_0f7a4 35 = .ok (.iload_n 0, 1) := by decide +kernel
theorem dJ6_bitCount_0f7a4_36 : decode cJ6_bitCount_0f7a4 36 = .ok (.bipush 8, 2) := by decide +kernel
theorem dJ6_bitCount_0f7a4_38 : decode cJ6_bitCount_0f7a4 38 = .ok (.iushr, 1) := by decide +kernel
theorem dJ6_bitCount_0f7a4_39 : decode cJ6_bitCount_0f7a4 39 = .ok (.iadd, 1) := by decide +kernel
theorem dJ6_bitCount_0f7a4_40 : decode cJ6_bitCount_0f7a4 40 = .ok (.istore_n 0, 1) := by decide +kernel
theorem dJ6_bitCount_0f7a4_41 : decode cJ6_bitCount_0f7a4 41 = .ok (.iload_n 0, 1) := by decide +kernel
theorem dJ6_bitCount_0f7a4_42 : decode cJ6_bitCount_0f7a4 42 = .ok (.iload_n 0, 1) := by decide +kernel
theorem dJ6_bitCount_0f7a4_43 : decode cJ6_bitCount_0f7a4 43 = .ok (.bipush 16, 2) := by decide +kernel
theorem dJ6_bitCount_0f7a4_45 : decode cJ6_bitCount_0f7a4 45 = .ok (.iushr, 1) := by decide +kernel
theorem dJ6_bitCount_0f7a4_46 : decode cJ6_bitCount_0f7a4 46 = .ok (.iadd, 1) := by decide +kernel
theorem dJ6_bitCount_0f7a4_47 : decode cJ6_bitCount_0f7a4 47 = .ok (.istore_n 0, 1) := by decide +kernel
theorem dJ6_bitCount_0f7a4_48 : decode cJ6_bitCount_0f7a4 48 = .ok (.iload_n 0, 1) := by decide +kernel
theorem dJ6_bitCount_0f7a4_49 : decode cJ6_bitCount_0f7a4 49 = .ok (.bipush 63, 2) := by decide +kernel
theorem dJ6_bitCount_0f7a4_51 : decode cJ6_bitCount_0f7a4 51 = .ok (.iand, 1) := by decide +kernel
theorem dJ6_bitCount_0f7a4_52 : decode cJ6_bitCount_0f7a4 52 = .ok (.ireturn, 1) := by decide +kernel
theorem dJ9_abs_0f7a4_0 : decode cJ9_abs_0f7a4 0 = .ok (.iload_n 0, 1) := by decide +kernel
theorem dJ9_abs_0f7a4_1 : decode cJ9_abs_0f7a4 1 = .ok (.ifCond .ge 8, 3) := by decide +kernel
theorem dJ9_abs_0f7a4_4 : decode cJ9_abs_0f7a4 4 = .ok (.iload_n 0, 1) := by decide +kernel
theorem dJ9_abs_0f7a4_5 : decode cJ9_abs_0f7a4 5 = .ok (.ineg, 1) := by decide +kernel
theorem dJ9_abs_0f7a4_6 : decode cJ9_abs_0f7a4 6 = .ok (.goto 4, 3) := by decide +kernel
theorem dJ9_abs_0f7a4_9 : decode cJ9_abs_0f7a4 9 = .ok (.iload_n 0, 1) := by decide +kernel
theorem dJ9_abs_0f7a4_10 : decode cJ9_abs_0f7a4 10 = .ok (.ireturn, 1) := by decide +kernel
theorem dJ9_max_7cf53_0 : decode cJ9_max_7cf53 0 = .ok (.iload_n 0, 1) := by decide +kernel
theorem dJ9_max_7cf53_1 : decode cJ9_max_7cf53 1 = .ok (.iload_n 1, 1) := by decide +kernel
theorem dJ9_max_7cf53_2 : decode cJ9_max_7cf53 2 = .ok (.if_icmp .lt 7, 3) := by decide +kernel
theorem dJ9_max_7cf53_5 : decode cJ9_max_7cf53 5 = .ok (.iload_n 0, 1) := by decide +kernel
theorem dJ9_max_7cf53_6 : decode cJ9_max_7cf53 6 = .ok (.goto 4, 3) := by decide +kernel
theorem dJ9_max_7cf53_9 : decode cJ9_max_7cf53 9 = .ok (.iload_n 1, 1) := by decide +kernel
theorem dJ9_max_7cf53_10 : decode cJ9_max_7cf53 10 = .ok (.ireturn, 1) := by decide +kernel
theorem dJ9_min_7cf53_0 : decode cJ9_min_7cf53 0 = .ok (.iload_n 0, 1) := by decide +kernel
theorem dJ9_min_7cf53_1 : decode cJ9_min_7cf53 1 = .ok (.iload_n 1, 1) := by decide +kernel
theorem dJ9_min_7cf53_2 : decode cJ9_min_7cf53 2 = .ok (.if_icmp .gt 7, 3) := by decide +kernel
theorem dJ9_min_7cf53_5 : decode cJ9_min_7cf53 5 = .ok (.iload_n 0, 1) := by decide +kernel
theorem dJ9_min_7cf53_6 : decode cJ9_min_7cf53 6 = .ok (.goto 4, 3) := by decide +kernel
theorem dJ9_min_7cf53_9 : decode cJ9_min_7cf53 9 = .ok (.iload_n 1, 1) := by decide +kernel
theorem dJ9_min_7cf53_10 : decode cJ9_min_7cf53 10 = .ok (.ireturn, 1) := by decide +kernel
theorem dJxa1e45_init_da8c8_0 : decode cJxa1e45_init_da8c8 0 = .ok (.aload_n 0, 1) := by decide +kernel
theorem dJxa1e45_init_da8c8_1 : decode cJxa1e45_init_da8c8 1 = .ok (.invokespecial 1, 3) := by decide +kernel
theorem dJxa1e45_init_da8c8_4 : decode cJxa1e45_init_da8c8 4 = .ok (.return_, 1) := by decide +kernel
theorem dJxc12de_init_da8c8_0 : decode cJxc12de_init_da8c8 0 = .ok (.aload_n 0, 1) := by decide +kernel
theorem dJxc12de_init_da8c8_1 : decode cJxc12de_init_da8c8 1 = .ok (.invokespecial 1, 3) := by decide +kernel
theorem dJxc12de_init_da8c8_4 : decode cJxc12de_init_da8c8 4 = .ok (.aload_n 0, 1) := by decide +kernel
theorem dJxc12de_init_da8c8_5 : decode cJxc12de_init_da8c8 5 = .ok (.iconst 0, 1) := by decide +kernel
theorem dJxc12de_init_da8c8_6 : decode cJxc12de_init_da8c8 6 = .ok (.putfield 7, 3) := by decide +kernel
theorem dJxc12de_init_da8c8_9 : decode cJxc12de_init_da8c8 9 = .ok (.return_, 1) := by decide +kernel
theorem dJx4a65c_init_da8c8_0 : decode cJx4a65c_init_da8c8 0 = .ok (.aload_n 0, 1) := by decide +kernel
theorem dJx4a65c_init_da8c8_1 : decode cJx4a65c_init_da8c8 1 = .ok (.invokespecial 1, 3) := by decide +kernel
theorem dJx4a65c_init_da8c8_4 : decode cJx4a65c_init_da8c8 4 = .ok (.aload_n 0, 1) := by decide +kernel
theorem dJx4a65c_init_da8c8_5 : decode cJx4a65c_init_da8c8 5 = .ok (.getstatic 39, 3) := by decide +kernel
theorem dJx4a65c_init_da8c8_8 : decode cJx4a65c_init_da8c8 8 = .ok (.putfield 9, 3) := by decide +kernel
theorem dJx4a65c_init_da8c8_11 : decode cJx4a65c_init_da8c8 11 = .ok (.return_, 1) := by decide +kernel
theorem dJx4a65c_grow_92f84_0 : decode cJx4a65c_grow_92f84 0 = .ok (.aload_n 0, 1) := by decide +kernel
theorem dJx4a65c_grow_92f84_1 : decode cJx4a65c_grow_92f84 1 = .ok (.getfield 9, 3) := by decide +kernel
theorem dJx4a65c_grow_92f84_4 : decode cJx4a65c_grow_92f84 4 = .ok (.arraylength, 1) := by decide +kernel
theorem dJx4a65c_grow_92f84_5 : decode cJx4a65c_grow_92f84 5 = .ok (.istore_n 2, 1) := by decide +kernel
theorem dJx4a65c_grow_92f84_6 : decode cJx4a65c_grow_92f84 6 = .ok (.iload_n 2, 1) := by decide +kernel
theorem dJx4a65c_grow_92f84_7 : decode cJx4a65c_grow_92f84 7 = .ok (.ifCond .gt 13, 3) := by decide +kernel
theorem dJx4a65c_grow_92f84_10 : decode cJx4a65c_grow_92f84 10 = .ok (.aload_n 0, 1) := by decide +kernel
theorem dJx4a65c_grow_92f84_11 : decode cJx4a65c_grow_92f84 11 = .ok (.getfield 9, 3) := by decide +kernel
theorem dJx4a65c_grow_92f84_14 : decode cJx4a65c_grow_92f84 14 = .ok (.getstatic 39, 3) := by decide +kernel
theorem dJx4a65c_grow_92f84_17 : decode cJx4a65c_grow_92f84 17 = .ok (.if_acmp .eq 28, 3) := by decide +kernel
theorem dJx4a65c_grow_92f84_20 : decode cJx4a65c_grow_92f84 20 = .ok (.iload_n 2, 1) := by decide +kernel
theorem dJx4a65c_grow_92f84_21 : decode cJx4a65c_grow_92f84 21 = .ok (.iload_n 1, 1) := by decide +kernel
theorem dJx4a65c_grow_92f84_22 : decode cJx4a65c_grow_92f84 22 = .ok (.iload_n 2, 1) := by decide +kernel
theorem dJx4a65c_grow_92f84_23 : decode cJx4a65c_grow_92f84 23 = .ok (.isub, 1) := by decide +kernel
theorem dJx4a65c_grow_92f84_24 : decode cJx4a65c_grow_92f84 24 = .ok (.iload_n 2, 1) := by decide +kernel
theorem dJx4a65c_grow_92f84_25 : decode cJx4a65c_grow_92f84 25 = .ok (.iconst 1, 1) := by decide +kernel
theorem dJx4a65c_grow_92f84_26 : decode cJx4a65c_grow_92f84 26 = .ok (.ishr, 1) := by decide +kernel
theorem dJx4a65c_grow_92f84_27 : decode cJx4a65c_grow_92f84 27 = .ok (.invokestatic 73, 3) := by decide +kernel
theorem dJx4a65c_grow_92f84_30 : decode cJx4a65c_grow_92f84 30 = .ok (.istore_n 3, 1) := by decide +kernel
theorem dJx4a65c_grow_92f84_31 : decode cJx4a65c_grow_92f84 31 = .ok (.aload_n 0, 1) := by decide +kernel
theorem dJx4a65c_grow_92f84_32 : decode cJx4a65c_grow_92f84 32 = .ok (.aload_n 0, 1) := by decide +kernel
theorem dJx4a65c_grow_92f84_33 : decode cJx4a65c_grow_92f84 33 = .ok (.getfield 9, 3) := by decide +kernel
theorem dJx4a65c_grow_92f84_36 : decode cJx4a65c_grow_92f84 36 = .ok (.iload_n 3, 1) := by decide +kernel
theorem dJx4a65c_grow_92f84_37 : decode cJx4a65c_grow_92f84 37 = .ok (.invokestatic 66, 3) := by decide +kernel
theorem dJx4a65c_grow_92f84_40 : decode cJx4a65c_grow_92f84 40 = .ok (.dup_x1, 1) := by decide +kernel
theorem dJx4a65c_grow_92f84_41 : decode cJx4a65c_grow_92f84 41 = .ok (.putfield 9, 3) := by decide +kernel
theorem dJx4a65c_grow_92f84_44 : decode cJx4a65c_grow_92f84 44 = .ok (.areturn, 1) := by decide +kernel
theorem dJx4a65c_grow_92f84_45 : decode cJx4a65c_grow_92f84 45 = .ok (.aload_n 0, 1) := by decide +kernel
theorem dJx4a65c_grow_92f84_46 : decode cJx4a65c_grow_92f84 46 = .ok (.bipush 10, 2) := by decide +kernel
theorem dJx4a65c_grow_92f84_48 : decode cJx4a65c_grow_92f84 48 = .ok (.iload_n 1, 1) := by decide +kernel
theorem dJx4a65c_grow_92f84_49 : decode cJx4a65c_grow_92f84 49 = .ok (.invokestatic 79, 3) := by decide +kernel
theorem dJx4a65c_grow_92f84_52 : decode cJx4a65c_grow_92f84 52 = .ok (.anewarray 7, 3) := by decide +kernel
theorem dJx4a65c_grow_92f84_55 : decode cJx4a65c_grow_92f84 55 = .ok (.dup_x1, 1) := by decide +kernel
theorem dJx4a65c_grow_92f84_56 : decode cJx4a65c_grow_92f84 56 = .ok (.putfield 9, 3) := by decide +kernel
theorem dJx4a65c_grow_92f84_59 : decode cJx4a65c_grow_92f84 59 = .ok (.areturn, 1) := by decide +kernel
theorem dJx4a65c_grow_d5877_0 : decode cJx4a65c_grow_d5877 0 = .ok (.aload_n 0, 1) := by decide +kernel
theorem dJx4a65c_grow_d5877_1 : decode cJx4a65c_grow_d5877 1 = .ok (.aload_n 0, 1) := by decide +kernel
theorem dJx4a65c_grow_d5877_2 : decode cJx4a65c_grow_d5877 2 = .ok (.getfield 48, 3) := by decide +kernel
theorem dJx4a65c_grow_d5877_5 : decode cJx4a65c_grow_d5877 5 = .ok (.iconst 1, 1) := by decide +kernel
theorem dJx4a65c_grow_d5877_6 : decode cJx4a65c_grow_d5877 6 = .ok (.iadd, 1) := by decide +kernel
theorem dJx4a65c_grow_d5877_7 : decode cJx4a65c_grow_d5877 7 = .ok (.invokevirtual 69, 3) := by decide +kernel
theorem dJx4a65c_grow_d5877_10 : decode cJx4a65c_grow_d5877 10 = .ok (.areturn, 1) := by decide +kernel
theorem dJx4a65c_size_8abf5_0 : decode cJx4a65c_size_8abf5 0 = .ok (.aload_n 0, 1) := by decide +kernel
theorem dJx4a65c_size_8abf5_1 : decode cJx4a65c_size_8abf5 1 = .ok (.getfield 48, 3) := by decide +kernel
theorem dJx4a65c_size_8abf5_4 : decode cJx4a65c_size_8abf5 4 = .ok (.ireturn, 1) := by decide +kernel
theorem dJx4a65c_isEmpty_aae02_0 : decode cJx4a65c_isEmpty_aae02 0 = .ok (.aload_n 0, 1) := by decide +kernel
theorem dJx4a65c_isEmpty_aae02_1 : decode cJx4a65c_isEmpty_aae02 1 = .ok (.getfield 48, 3) := by decide +kernel
theorem dJx4a65c_isEmpty_aae02_4 : decode cJx4a65c_isEmpty_aae02 4 = .ok (.ifCond .ne 7, 3) := by decide +kernel
theorem dJx4a65c_isEmpty_aae02_7 : decode cJx4a65c_isEmpty_aae02 7 = .ok (.iconst 1, 1) := by decide +kernel
theorem dJx4a65c_isEmpty_aae02_8 : decode cJx4a65c_isEmpty_aae02 8 = .ok (.goto 4, 3) := by decide +kernel
theorem dJx4a65c_isEmpty_aae02_11 : decode cJx4a65c_isEmpty_aae02 11 = .ok (.iconst 0, 1) := by decide +kernel
theorem dJx4a65c_isEmpty_aae02_12 : decode cJx4a65c_isEmpty_aae02 12 = .ok (.ireturn, 1) := by decide +kernel
theorem dJx4a65c_elementData_915e3_0 : decode cJx4a65c_elementData_915e3 0 = .ok (.aload_n 0, 1) := by decide +kernel
theorem dJx4a65c_elementData_915e3_1 : decode cJx4a65c_elementData_915e3 1 = .ok (.getfield 9, 3) := by decide +kernel
theorem dJx4a65c_elementData_915e3_4 : decode cJx4a65c_elementData_915e3 4 = .ok (.iload_n 1, 1) := by decide +kernel
theorem dJx4a65c_elementData_915e3_5 : decode cJx4a65c_elementData_915e3 5 = .ok (.aaload, 1) := by decide +kernel
theorem dJx4a65c_elementData_915e3_6 : decode cJx4a65c_elementData_915e3 6 = .ok (.areturn, 1) := by decide +kernel
theorem dJx4a65c_get_915e3_0 : decode cJx4a65c_get_915e3 0 = .ok (.iload_n 1, 1) := by decide +kernel
theorem dJx4a65c_get_915e3_1 : decode cJx4a65c_get_915e3 1 = .ok (.aload_n 0, 1) := by decide +kernel
theorem dJx4a65c_get_915e3_2 : decode cJx4a65c_get_915e3 2 = .ok (.getfield 48, 3) := by decide +kernel
theorem dJx4a65c_get_915e3_5 : decode cJx4a65c_get_915e3 5 = .ok (.invokestatic 118, 3) := by decide +kernel
theorem dJx4a65c_get_915e3_8 : decode cJx4a65c_get_915e3 8 = .ok (.pop, 1) := by decide +kernel
theorem dJx4a65c_get_915e3_9 : decode cJx4a65c_get_915e3 9 = .ok (.aload_n 0, 1) := by decide +kernel
theorem dJx4a65c_get_915e3_10 : decode cJx4a65c_get_915e3 10 = .ok (.iload_n 1, 1) := by decide +kernel
theorem dJx4a65c_get_915e3_11 : decode cJx4a65c_get_915e3 11 = .ok (.invokevirtual 123, 3) := by decide +kernel
theorem dJx4a65c_get_915e3_14 : decode cJx4a65c_get_915e3 14 = .ok (.areturn, 1) := by decide +kernel
theorem dJx4a65c_add_72be8_0 : decode cJx4a65c_add_72be8 0 = .ok (.iload_n 3, 1) := by decide +kernel
theorem dJx4a65c_add_72be8_1 : decode cJx4a65c_add_72be8 1 = .ok (.aload_n 2, 1) := by decide +kernel
theorem dJx4a65c_add_72be8_2 : decode cJx4a65c_add_72be8 2 = .ok (.arraylength, 1) := by decide +kernel
theorem dJx4a65c_add_72be8_3 : decode cJx4a65c_add_72be8 3 = .ok (.if_icmp .ne 8, 3) := by decide +kernel
theorem dJx4a65c_add_72be8_6 : decode cJx4a65c_add_72be8 6 = .ok (.aload_n 0, 1) := by decide +kernel
theorem dJx4a65c_add_72be8_7 : decode cJx4a65c_add_72be8 7 = .ok (.invokevirtual 129, 3) := by decide +kernel
theorem dJx4a65c_add_72be8_10 : decode cJx4a65c_add_72be8 10 = .ok (.astore_n 2, 1) := by decide +kernel
theorem dJx4a65c_add_72be8_11 : decode cJx4a65c_add_72be8 11 = .ok (.aload_n 2, 1) := by decide +kernel
theorem dJx4a65c_add_72be8_12 : decode cJx4a65c_add_72be8 12 = .ok (.iload_n 3, 1) := by decide +kernel
theorem dJx4a65c_add_72be8_13 : decode cJx4a65c_add_72be8 13 = .ok (.aload_n 1, 1) := by decide +kernel
theorem dJx4a65c_add_72be8_14 : decode cJx4a65c_add_72be8 14 = .ok (.aastore, 1) := by decide +kernel
theorem dJx4a65c_add_72be8_15 : decode cJx4a65c_add_72be8 15 = .ok (.aload_n 0, 1) := by decide +kernel
theorem dJx4a65c_add_72be8_16 : decode cJx4a65c_add_72be8 16 = .ok (.iload_n 3, 1) := by decide +kernel
theorem dJx4a65c_add_72be8_17 : decode cJx4a65c_add_72be8 17 = .ok (.iconst 1, 1) := by decide +kernel
theorem dJx4a65c_add_72be8_18 : decode cJx4a65c_add_72be8 18 = .ok (.iadd, 1) := by decide +kernel
theorem dJx4a65c_add_72be8_19 : decode cJx4a65c_add_72be8 19 = .ok (.putfield 48, 3) := by decide +kernel
theorem dJx4a65c_add_72be8_22 : decode cJx4a65c_add_72be8 22 = .ok (.return_, 1) := by decide +kernel
theorem dJx4a65c_add_9ea2d_0 : decode cJx4a65c_add_9ea2d 0 = .ok (.aload_n 0, 1) := by decide +kernel
theorem dJx4a65c_add_9ea2d_1 : decode cJx4a65c_add_9ea2d 1 = .ok (.dup, 1) := by decide +kernel
theorem dJx4a65c_add_9ea2d_2 : decode cJx4a65c_add_9ea2d 2 = .ok (.getfield 63, 3) := by decide +kernel
theorem dJx4a65c_add_9ea2d_5 : decode cJx4a65c_add_9ea2d 5 = .ok (.iconst 1, 1) := by decide +kernel
theorem dJx4a65c_add_9ea2d_6 : decode cJx4a65c_add_9ea2d 6 = .ok (.iadd, 1) := by decide +kernel
theorem dJx4a65c_add_9ea2d_7 : decode cJx4a65c_add_9ea2d 7 = .ok (.putfield 63, 3) := by decide +kernel
theorem dJx4a65c_add_9ea2d_10 : decode cJx4a65c_add_9ea2d 10 = .ok (.aload_n 0, 1) := by decide +kernel
theorem dJx4a65c_add_9ea2d_11 : decode cJx4a65c_add_9ea2d 11 = .ok (.aload_n 1, 1) := by decide +kernel
theorem dJx4a65c_add_9ea2d_12 : decode cJx4a65c_add_9ea2d 12 = .ok (.aload_n 0, 1) := by decide +kernel
theorem dJx4a65c_add_9ea2d_13 : decode cJx4a65c_add_9ea2d 13 = .ok (.getfield 9, 3) := by decide +kernel
theorem dJx4a65c_add_9ea2d_16 : decode cJx4a65c_add_9ea2d 16 = .ok (.aload_n 0, 1) := by decide +kernel
theorem dJx4a65c_add_9ea2d_17 : decode cJx4a65c_add_9ea2d 17 = .ok (.getfield 48, 3) := by decide +kernel
theorem dJx4a65c_add_9ea2d_20 : decode cJx4a65c_add_9ea2d 20 = .ok (.invokevirtual 131, 3) := by decide +kernel
theorem dJx4a65c_add_9ea2d_23 : decode cJx4a65c_add_9ea2d 23 = .ok (.iconst 1, 1) := by decide +kernel
theorem dJx4a65c_add_9ea2d_24 : decode cJx4a65c_add_9ea2d 24 = .ok (.ireturn, 1) := by decide +kernel
theorem dJx4a65c_remove_915e3_0 : decode cJx4a65c_remove_915e3 0 = .ok (.iload_n 1, 1) := by decide +kernel
theorem dJx4a65c_remove_915e3_1 : decode cJx4a65c_remove_915e3 1 = .ok (.aload_n 0, 1) := by decide +kernel
theorem dJx4a65c_remove_915e3_2 : decode cJx4a65c_remove_915e3 2 = .ok (.getfield 48, 3) := by decide +kernel
theorem dJx4a65c_remove_915e3_5 : decode cJx4a65c_remove_915e3 5 = .ok (.invokestatic 118, 3) := by decide +kernel
theorem dJx4a65c_remove_915e3_8 : decode cJx4a65c_remove_915e3 8 = .ok (.pop, 1) := by decide +kernel
theorem dJx4a65c_remove_915e3_9 : decode cJx4a65c_remove_915e3 9 = .ok (.aload_n 0, 1) := by decide +kernel
theorem dJx4a65c_remove_915e3_10 : decode cJx4a65c_remove_915e3 10 = .ok (.getfield 9, 3) := by decide +kernel
theorem dJx4a65c_remove_915e3_13 : decode cJx4a65c_remove_915e3 13 = .ok (.astore_n 2, 1) := by decide +kernel
theorem dJx4a65c_remove_915e3_14 : decode cJx4a65c_remove_915e3 14 = .ok (.aload_n 2, 1) := by decide +kernel
theorem dJx4a65c_remove_915e3_15 : decode cJx4a65c_remove_915e3 15 = .ok (.iload_n 1, 1) := by decide +kernel
theorem dJx4a65c_remove_915e3_16 : decode cJx4a65c_remove_915e3 16 = .ok (.aaload, 1) := by decide +kernel
theorem dJx4a65c_remove_915e3_17 : decode cJx4a65c_remove_915e3 17 = .ok (.astore_n 3, 1) := by decide +kernel
theorem dJx4a65c_remove_915e3_18 : decode cJx4a65c_remove_915e3 18 = .ok (.aload_n 0, 1) := by decide +kernel
theorem dJx4a65c_remove_915e3_19 : decode cJx4a65c_remove_915e3 19 = .ok (.aload_n 2, 1) := by decide +kernel
theorem dJx4a65c_remove_915e3_20 : decode cJx4a65c_remove_915e3 20 = .ok (.iload_n 1, 1) := by decide +kernel
theorem dJx4a65c_remove_915e3_21 : decode cJx4a65c_remove_915e3 21 = .ok (.invokevirtual 144, 3) := by decide +kernel
theorem dJx4a65c_remove_915e3_24 : decode cJx4a65c_remove_915e3 24 = .ok (.aload_n 3, 1) := by decide +kernel
theorem dJx4a65c_remove_915e3_25 : decode cJx4a65c_remove_915e3 25 = .ok (.areturn, 1) := by decide +kernel
theorem dJx4a65c_fastRemove_b59b0_0 : decode cJx4a65c_fastRemove_b59b0 0 = .ok (.aload_n 0, 1) := by decide +kernel
theorem dJx4a65c_fastRemove_b59b0_1 : decode cJx4a65c_fastRemove_b59b0 1 = .ok (.dup, 1) := by decide +kernel
theorem dJx4a65c_fastRemove_b59b0_2 : decode cJx4a65c_fastRemove_b59b0 2 = .ok (.getfield 63, 3) := by decide +kernel
theorem dJx4a65c_fastRemove_b59b0_5 : decode cJx4a65c_fastRemove_b59b0 5 = .ok (.iconst 1, 1) := by decide +kernel
theorem dJx4a65c_fastRemove_b59b0_6 : decode cJx4a65c_fastRemove_b59b0 6 = .ok (.iadd, 1) := by decide +kernel
theorem dJx4a65c_fastRemove_b59b0_7 : decode cJx4a65c_fastRemove_b59b0 7 = .ok (.putfield 63, 3) := by decide +kernel
theorem dJx4a65c_fastRemove_b59b0_10 : decode cJx4a65c_fastRemove_b59b0 10 = .ok (.aload_n 0, 1) := by decide +kernel
theorem dJx4a65c_fastRemove_b59b0_11 : decode cJx4a65c_fastRemove_b59b0 11 = .ok (.getfield 48, 3) := by decide +kernel
theorem dJx4a65c_fastRemove_b59b0_14 : decode cJx4a65c_fastRemove_b59b0 14 = .ok (.iconst 1, 1) := by decide +kernel
theorem dJx4a65c_fastRemove_b59b0_15 : decode cJx4a65c_fastRemove_b59b0 15 = .ok (.isub, 1) := by decide +kernel
theorem dJx4a65c_fastRemove_b59b0_16 : decode cJx4a65c_fastRemove_b59b0 16 = .ok (.dup, 1) := by decide +kernel
theorem dJx4a65c_fastRemove_b59b0_17 : decode cJx4a65c_fastRemove_b59b0 17 = .ok (.istore_n 3, 1) := by decide +kernel
theorem dJx4a65c_fastRemove_b59b0_18 : decode cJx4a65c_fastRemove_b59b0 18 = .ok (.iload_n 2, 1) := by decide +kernel
theorem dJx4a65c_fastRemove_b59b0_19 : decode cJx4a65c_fastRemove_b59b0 19 = .ok (.if_icmp .le 15, 3) := by decide +kernel
theorem dJx4a65c_fastRemove_b59b0_22 : decode cJx4a65c_fastRemove_b59b0 22 = .ok (.aload_n 1, 1) := by decide +kernel
theorem dJx4a65c_fastRemove_b59b0_23 : decode cJx4a65c_fastRemove_b59b0 23 = .ok (.iload_n 2, 1) := by decide +kernel
theorem dJx4a65c_fastRemove_b59b0_24 : decode cJx4a65c_fastRemove_b59b0 24 = .ok (.iconst 1, 1) := by decide +kernel
theorem dJx4a65c_fastRemove_b59b0_25 : decode cJx4a65c_fastRemove_b59b0 25 = .ok (.iadd, 1) := by decide +kernel
theorem dJx4a65c_fastRemove_b59b0_26 : decode cJx4a65c_fastRemove_b59b0 26 = .ok (.aload_n 1, 1) := by decide +kernel
theorem dJx4a65c_fastRemove_b59b0_27 : decode cJx4a65c_fastRemove_b59b0 27 = .ok (.iload_n 2, 1) := by decide +kernel
theorem dJx4a65c_fastRemove_b59b0_28 : decode cJx4a65c_fastRemove_b59b0 28 = .ok (.iload_n 3, 1) := by decide +kernel
theorem dJx4a65c_fastRemove_b59b0_29 : decode cJx4a65c_fastRemove_b59b0 29 = .ok (.iload_n 2, 1) := by decide +kernel
theorem dJx4a65c_fastRemove_b59b0_30 : decode cJx4a65c_fastRemove_b59b0 30 = .ok (.isub, 1) := by decide +kernel
theorem dJx4a65c_fastRemove_b59b0_31 : decode cJx4a65c_fastRemove_b59b0 31 = .ok (.invokestatic 112, 3) := by decide +kernel
theorem dJx4a65c_fastRemove_b59b0_34 : decode cJx4a65c_fastRemove_b59b0 34 = .ok (.aload_n 1, 1) := by decide +kernel
theorem dJx4a65c_fastRemove_b59b0_35 : decode cJx4a65c_fastRemove_b59b0 35 = .ok (.aload_n 0, 1) := by decide +kernel
theorem dJx4a65c_fastRemove_b59b0_36 : decode cJx4a65c_fastRemove_b59b0 36 = .ok (.iload_n 3, 1) := by decide +kernel
theorem dJx4a65c_fastRemove_b59b0_37 : decode cJx4a65c_fastRemove_b59b0 37 = .ok (.dup_x1, 1) := by decide +kernel
theorem dJx4a65c_fastRemove_b59b0_38 : decode cJx4a65c_fastRemove_b59b0 38 = .ok (.putfield 48, 3) := by decide +kernel
theorem dJx4a65c_fastRemove_b59b0_41 : decode cJx4a65c_fastRemove_b59b0 41 = .ok (.aconst_null, 1) := by decide +kernel
theorem dJx4a65c_fastRemove_b59b0_42 : decode cJx4a65c_fastRemove_b59b0 42 = .ok (.aastore, 1) := by decide +kernel
theorem dJx4a65c_fastRemove_b59b0_43 : decode cJx4a65c_fastRemove_b59b0 43 = .ok (.return_, 1) := by decide +kernel
theorem dJx4a65c_clear_da8c8_0 : decode cJx4a65c_clear_da8c8 0 = .ok (.aload_n 0, 1) := by decide +kernel
theorem dJx4a65c_clear_da8c8_1 : decode cJx4a65c_clear_da8c8 1 = .ok (.dup, 1) := by decide +kernel
theorem dJx4a65c_clear_da8c8_2 : decode cJx4a65c_clear_da8c8 2 = .ok (.getfield 63, 3) := by decide +kernel
theorem dJx4a65c_clear_da8c8_5 : decode cJx4a65c_clear_da8c8 5 = .ok (.iconst 1, 1) := by decide +kernel
theorem dJx4a65c_clear_da8c8_6 : decode cJx4a65c_clear_da8c8 6 = .ok (.iadd, 1) := by decide +kernel
theorem dJx4a65c_clear_da8c8_7 : decode cJx4a65c_clear_da8c8 7 = .ok (.putfield 63, 3) := by decide +kernel
theorem dJx4a65c_clear_da8c8_10 : decode cJx4a65c_clear_da8c8 10 = .ok (.aload_n 0, 1) := by decide +kernel
theorem dJx4a65c_clear_da8c8_11 : decode cJx4a65c_clear_da8c8 11 = .ok (.getfield 9, 3) := by decide +kernel
theorem dJx4a65c_clear_da8c8_14 : decode cJx4a65c_clear_da8c8 14 = .ok (.astore_n 1, 1) := by decide +kernel
theorem dJx4a65c_clear_da8c8_15 : decode cJx4a65c_clear_da8c8 15 = .ok (.aload_n 0, 1) := by decide +kernel
theorem dJx4a65c_clear_da8c8_16 : decode cJx4a65c_clear_da8c8 16 = .ok (.getfield 48, 3) := by decide +kernel
theorem dJx4a65c_clear_da8c8_19 : decode cJx4a65c_clear_da8c8 19 = .ok (.istore_n 2, 1) := by decide +kernel
theorem dJx4a65c_clear_da8c8_20 : decode cJx4a65c_clear_da8c8 20 = .ok (.aload_n 0, 1) := by decide +kernel
theorem dJx4a65c_clear_da8c8_21 : decode cJx4a65c_clear_da8c8 21 = .ok (.iconst 0, 1) := by decide +kernel
theorem dJx4a65c_clear_da8c8_22 : decode cJx4a65c_clear_da8c8 22 = .ok (.dup_x1, 1) := by decide +kernel
theorem dJx4a65c_clear_da8c8_23 : decode cJx4a65c_clear_da8c8 23 = .ok (.putfield 48, 3) := by decide +kernel
theorem dJx4a65c_clear_da8c8_26 : decode cJx4a65c_clear_da8c8 26 = .ok (.istore_n 3, 1) := by decide +kernel
theorem dJx4a65c_clear_da8c8_27 : decode cJx4a65c_clear_da8c8 27 = .ok (.iload_n 3, 1) := by decide +kernel
theorem dJx4a65c_clear_da8c8_28 : decode cJx4a65c_clear_da8c8 28 = .ok (.iload_n 2, 1) := by decide +kernel
theorem dJx4a65c_clear_da8c8_29 : decode cJx4a65c_clear_da8c8 29 = .ok (.if_icmp .ge 13, 3) := by decide +kernel
theorem dJx4a65c_clear_da8c8_32 : decode cJx4a65c_clear_da8c8 32 = .ok (.aload_n 1, 1) := by decide +kernel
theorem dJx4a65c_clear_da8c8_33 : decode cJx4a65c_clear_da8c8 33 = .ok (.iload_n 3, 1) := by decide +kernel
theorem dJx4a65c_clear_da8c8_34 : decode cJx4a65c_clear_da8c8 34 = .ok (.aconst_null, 1) := by decide +kernel
theorem dJx4a65c_clear_da8c8_35 : decode cJx4a65c_clear_da8c8 35 = .ok (.aastore, 1) := by decide +kernel
theorem dJx4a65c_clear_da8c8_36 : decode cJx4a65c_clear_da8c8 36 = .ok (.iinc 3 1, 3) := by decide +kernel
theorem dJx4a65c_clear_da8c8_39 : decode cJx4a65c_clear_da8c8 39 = .ok (.goto (-12), 3) := by decide +kernel
theorem dJx4a65c_clear_da8c8_42 : decode cJx4a65c_clear_da8c8 42 = .ok (.return_, 1) := by decide +kernel
theorem dJ7_copyOf_1904c_0 : decode cJ7_copyOf_1904c 0 = .ok (.aload_n 0, 1) := by decide +kernel
theorem dJ7_copyOf_1904c_1 : decode cJ7_copyOf_1904c 1 = .ok (.iload_n 1, 1) := by decide +kernel
theorem dJ7_copyOf_1904c_2 : decode cJ7_copyOf_1904c 2 = .ok (.aload_n 0, 1) := by decide +kernel
theorem dJ7_copyOf_1904c_3 : decode cJ7_copyOf_1904c 3 = .ok (.invokevirtual 86, 3) := by decide +kernel
theorem dJ7_copyOf_1904c_6 : decode cJ7_copyOf_1904c 6 = .ok (.invokestatic 300, 3) := by decide +kernel
theorem dJ7_copyOf_1904c_9 : decode cJ7_copyOf_1904c 9 = .ok (.areturn, 1) := by decide +kernel
theorem dJ7_copyOf_6403c_0 : decode cJ7_copyOf_6403c 0 = .ok (.aload_n 2, 1) := by decide +kernel
theorem dJ7_copyOf_6403c_1 : decode cJ7_copyOf_6403c 1 = .ok (.ldc 110, 2) := by decide +kernel
theorem dJ7_copyOf_6403c_3 : decode cJ7_copyOf_6403c 3 = .ok (.if_acmp .ne 10, 3) := by decide +kernel
theorem dJ7_copyOf_6403c_6 : decode cJ7_copyOf_6403c 6 = .ok (.iload_n 1, 1) := by decide +kernel
theorem dJ7_copyOf_6403c_7 : decode cJ7_copyOf_6403c 7 = .ok (.anewarray 2, 3) := by decide +kernel
theorem dJ7_copyOf_6403c_10 : decode cJ7_copyOf_6403c 10 = .ok (.goto 14, 3) := by decide +kernel
theorem dJ7_copyOf_6403c_13 : decode cJ7_copyOf_6403c 13 = .ok (.aload_n 2, 1) := by decide +kernel
theorem dJ7_copyOf_6403c_14 : decode cJ7_copyOf_6403c 14 = .ok (.invokevirtual 90, 3) := by decide +kernel
theorem dJ7_copyOf_6403c_17 : decode cJ7_copyOf_6403c 17 = .ok (.iload_n 1, 1) := by decide +kernel
theorem dJ7_copyOf_6403c_18 : decode cJ7_copyOf_6403c 18 = .ok (.invokestatic 95, 3) := by decide +kernel
theorem dJ7_copyOf_6403c_21 : decode cJ7_copyOf_6403c 21 = .ok (.checkcast 110, 3) := by decide +kernel
theorem dJ7_copyOf_6403c_24 : decode cJ7_copyOf_6403c 24 = .ok (.astore_n 3, 1) := by decide +kernel
theorem dJ7_copyOf_6403c_25 : decode cJ7_copyOf_6403c 25 = .ok (.aload_n 0, 1) := by decide +kernel
theorem dJ7_copyOf_6403c_26 : decode cJ7_copyOf_6403c 26 = .ok (.iconst 0, 1) := by decide +kernel
theorem dJ7_copyOf_6403c_27 : decode cJ7_copyOf_6403c 27 = .ok (.aload_n 3, 1) := by decide +kernel
theorem dJ7_copyOf_6403c_28 : decode cJ7_copyOf_6403c 28 = .ok (.iconst 0, 1) := by decide +kernel
theorem dJ7_copyOf_6403c_29 : decode cJ7_copyOf_6403c 29 = .ok (.aload_n 0, 1) := by decide +kernel
theorem dJ7_copyOf_6403c_30 : decode cJ7_copyOf_6403c 30 = .ok (.arraylength, 1) := by decide +kernel
theorem dJ7_copyOf_6403c_31 : decode cJ7_copyOf_6403c 31 = .ok (.iload_n 1, 1) := by decide +kernel
theorem dJ7_copyOf_6403c_32 : decode cJ7_copyOf_6403c 32 = .ok (.invokestatic 304, 3) := by decide +kernel
theorem dJ7_copyOf_6403c_35 : decode cJ7_copyOf_6403c 35 = .ok (.invokestatic 150, 3) := by decide +kernel
theorem dJ7_copyOf_6403c_38 : decode cJ7_copyOf_6403c 38 = .ok (.aload_n 3, 1) := by decide +kernel
theorem dJ7_copyOf_6403c_39 : decode cJ7_copyOf_6403c 39 = .ok (.areturn, 1) := by decide +kernel
theorem dJ15_checkIndex_7cf53_0 : decode cJ15_checkIndex_7cf53 0 = .ok (.iload_n 0, 1) := by decide +kernel
theorem dJ15_checkIndex_7cf53_1 : decode cJ15_checkIndex_7cf53 1 = .ok (.iload_n 1, 1) := by decide +kernel
theorem dJ15_checkIndex_7cf53_2 : decode cJ15_checkIndex_7cf53 2 = .ok (.aconst_null, 1) := by decide +kernel
theorem dJ15_checkIndex_7cf53_3 : decode cJ15_checkIndex_7cf53 3 = .ok (.invokestatic 105, 3) := by decide +kernel
theorem dJ15_checkIndex_7cf53_6 : decode cJ15_checkIndex_7cf53 6 = .ok (.ireturn, 1) := by decide +kernel
theorem dJ8_newLength_cabcc_0 : decode cJ8_newLength_cabcc 0 = .ok (.iload_n 0, 1) := by decide +kernel
theorem dJ8_newLength_cabcc_1 : decode cJ8_newLength_cabcc 1 = .ok (.iload_n 1, 1) := by decide +kernel
theorem dJ8_newLength_cabcc_2 : decode cJ8_newLength_cabcc 2 = .ok (.iload_n 2, 1) := by decide +kernel
theorem dJ8_newLength_cabcc_3 : decode cJ8_newLength_cabcc 3 = .ok (.invokestatic 194, 3) := by decide +kernel
theorem dJ8_newLength_cabcc_6 : decode cJ8_newLength_cabcc 6 = .ok (.iadd, 1) := by decide +kernel
theorem dJ8_newLength_cabcc_7 : decode cJ8_newLength_cabcc 7 = .ok (.istore_n 3, 1) := by decide +kernel
theorem dJ8_newLength_cabcc_8 : decode cJ8_newLength_cabcc 8 = .ok (.iconst 0, 1) := by decide +kernel
theorem dJ8_newLength_cabcc_9 : decode cJ8_newLength_cabcc 9 = .ok (.iload_n 3, 1) := by decide +kernel
theorem dJ8_newLength_cabcc_10 : decode cJ8_newLength_cabcc 10 = .ok (.if_icmp .ge 11, 3) := by decide +kernel
theorem dJ8_newLength_cabcc_13 : decode cJ8_newLength_cabcc 13 = .ok (.iload_n 3, 1) := by decide +kernel
theorem dJ8_newLength_cabcc_14 : decode cJ8_newLength_cabcc 14 = .ok (.ldc 200, 2) := by decide +kernel
theorem dJ8_newLength_cabcc_16 : decode cJ8_newLength_cabcc 16 = .ok (.if_icmp .gt 5, 3) := by decide +kernel
theorem dJ8_newLength_cabcc_19 : decode cJ8_newLength_cabcc 19 = .ok (.iload_n 3, 1) := by decide +kernel
theorem dJ8_newLength_cabcc_20 : decode cJ8_newLength_cabcc 20 = .ok (.ireturn, 1) := by decide +kernel
theorem dJ8_newLength_cabcc_21 : decode cJ8_newLength_cabcc 21 = .ok (.iload_n 0, 1) := by decide +kernel
theorem dJ8_newLength_cabcc_22 : decode cJ8_newLength_cabcc 22 = .ok (.iload_n 1, 1) := by decide +kernel
theorem dJ8_newLength_cabcc_23 : decode cJ8_newLength_cabcc 23 = .ok (.invokestatic 201, 3) := by decide +kernel
theorem dJ8_newLength_cabcc_26 : decode cJ8_newLength_cabcc 26 = .ok (.ireturn, 1) := by decide +kernel
theorem dJ3_checkIndex_8e157_0 : decode cJ3_checkIndex_8e157 0 = .ok (.iload_n 0, 1) := by decide +kernel
theorem dJ3_checkIndex_8e157_1 : decode cJ3_checkIndex_8e157 1 = .ok (.ifCond .lt 8, 3) := by decide +kernel
theorem dJ3_checkIndex_8e157_4 : decode cJ3_checkIndex_8e157 4 = .ok (.iload_n 0, 1) := by decide +kernel
theorem dJ3_checkIndex_8e157_5 : decode cJ3_checkIndex_8e157 5 = .ok (.iload_n 1, 1) := by decide +kernel
theorem dJ3_checkIndex_8e157_6 : decode cJ3_checkIndex_8e157 6 = .ok (.if_icmp .lt 10, 3) := by decide +kernel
theorem dJ3_checkIndex_8e157_9 : decode cJ3_checkIndex_8e157 9 = .ok (.aload_n 2, 1) := by decide +kernel
theorem dJ3_checkIndex_8e157_10 : decode cJ3_checkIndex_8e157 10 = .ok (.iload_n 0, 1) := by decide +kernel
theorem dJ3_checkIndex_8e157_11 : decode cJ3_checkIndex_8e157 11 = .ok (.iload_n 1, 1) := by decide +kernel
theorem dJ3_checkIndex_8e157_12 : decode cJ3_checkIndex_8e157 12 = .ok (.invokestatic 95, 3) := by decide +kernel
theorem dJ3_checkIndex_8e157_15 : decode cJ3_checkIndex_8e157 15 = .ok (.athrow, 1) := by decide +kernel
theorem dJ3_checkIndex_8e157_16 : decode cJ3_checkIndex_8e157 16 = .ok (.iload_n 0, 1) := by decide +kernel
theorem dJ3_checkIndex_8e157_17 : decode cJ3_checkIndex_8e157 17 = .ok (.ireturn, 1) := by decide +kernel
theorem dL_part_0 : decode cL_part 0 = .ok (.aload 4, 2) := by decide +kernel
theorem dL_part_2 : decode cL_part 2 = .ok (.iconst 0, 1) := by decide +kernel
theorem dL_part_3 : decode cL_part 3 = .ok (.aload_n 0, 1) := by decide +kernel
theorem dL_part_4 : decode cL_part 4 = .ok (.iload_n 1, 1) := by decide +kernel
theorem dL_part_5 : decode cL_part 5 = .ok (.iload_n 2, 1) := by decide +kernel
theorem dL_part_6 : decode cL_part 6 = .ok (.iload_n 3, 1) := by decide +kernel
theorem dL_part_7 : decode cL_part 7 = .ok (.invokevirtual 7, 3) := by decide +kernel
theorem dL_part_10 : decode cL_part 10 = .ok (.i2l, 1) := by decide +kernel
theorem dL_part_11 : decode cL_part 11 = .ok (.lastore, 1) := by decide +kernel
theorem dL_part_12 : decode cL_part 12 = .ok (.goto 11, 3) := by decide +kernel
theorem dL_part_15 : decode cL_part 15 = .ok (.astore 5, 2) := by decide +kernel
theorem dL_part_17 : decode cL_part 17 = .ok (.iconst 1, 1) := by decide +kernel
theorem dL_part_18 : decode cL_part 18 = .ok (.ireturn, 1) := by decide +kernel
theorem dL_part_19 : decode cL_part 19 = .ok (.astore 5, 2) := by decide +kernel
theorem dL_part_21 : decode cL_part 21 = .ok (.iconst 2, 1) := by decide +kernel
theorem dL_part_22 : decode cL_part 22 = .ok (.ireturn, 1) := by decide +kernel
theorem dL_part_23 : decode cL_part 23 = .ok (.iconst 0, 1) := by decide +kernel
theorem dL_part_24 : decode cL_part 24 = .ok (.ireturn, 1) := by decide +kernel
theorem dL_limits_0 : decode cL_limits 0 = .ok (.aload 5, 2) := by decide +kernel
theorem dL_limits_2 : decode cL_limits 2 = .ok (.iconst 0, 1) := by decide +kernel
theorem dL_limits_3 : decode cL_limits 3 = .ok (.aload_n 0, 1) := by decide +kernel
theorem dL_limits_4 : decode cL_limits 4 = .ok (.iload_n 1, 1) := by decide +kernel
theorem dL_limits_5 : decode cL_limits 5 = .ok (.iload_n 2, 1) := by decide +kernel
theorem dL_limits_6 : decode cL_limits 6 = .ok (.iload_n 3, 1) := by decide +kernel
theorem dL_limits_7 : decode cL_limits 7 = .ok (.iload 4, 2) := by decide +kernel
theorem dL_limits_9 : decode cL_limits 9 = .ok (.invokevirtual 17, 3) := by decide +kernel
theorem dL_limits_12 : decode cL_limits 12 = .ok (.i2l, 1) := by decide +kernel
theorem dL_limits_13 : decode cL_limits 13 = .ok (.lastore, 1) := by decide +kernel
theorem dL_limits_14 : decode cL_limits 14 = .ok (.goto 7, 3) := by decide +kernel
theorem dL_limits_17 : decode cL_limits 17 = .ok (.astore 6, 2) := by decide +kernel
theorem dL_limits_19 : decode cL_limits 19 = .ok (.iconst 1, 1) := by decide +kernel
theorem dL_limits_20 : decode cL_limits 20 = .ok (.ireturn, 1) := by decide +kernel
theorem dL_limits_21 : decode cL_limits 21 = .ok (.iconst 0, 1) := by decide +kernel
theorem dL_limits_22 : decode cL_limits 22 = .ok (.ireturn, 1) := by decide +kernel
theorem dL_fit_0 : decode cL_fit 0 = .ok (.aload_n 3, 1) := by decide +kernel
theorem dL_fit_1 : decode cL_fit 1 = .ok (.iconst 0, 1) := by decide +kernel
theorem dL_fit_2 : decode cL_fit 2 = .ok (.aload_n 0, 1) := by decide +kernel
theorem dL_fit_3 : decode cL_fit 3 = .ok (.iload_n 1, 1) := by decide +kernel
theorem dL_fit_4 : decode cL_fit 4 = .ok (.iload_n 2, 1) := by decide +kernel
theorem dL_fit_5 : decode cL_fit 5 = .ok (.invokevirtual 21, 3) := by decide +kernel
theorem dL_fit_8 : decode cL_fit 8 = .ok (.i2l, 1) := by decide +kernel
theorem dL_fit_9 : decode cL_fit 9 = .ok (.lastore, 1) := by decide +kernel
theorem dL_fit_10 : decode cL_fit 10 = .ok (.goto 15, 3) := by decide +kernel
theorem dL_fit_13 : decode cL_fit 13 = .ok (.astore 4, 2) := by decide +kernel
theorem dL_fit_15 : decode cL_fit 15 = .ok (.iconst 1, 1) := by decide +kernel
theorem dL_fit_16 : decode cL_fit 16 = .ok (.ireturn, 1) := by decide +kernel
theorem dL_fit_17 : decode cL_fit 17 = .ok (.astore 4, 2) := by decide +kernel
theorem dL_fit_19 : decode cL_fit 19 = .ok (.iconst 2, 1) := by decide +kernel
theorem dL_fit_20 : decode cL_fit 20 = .ok (.ireturn, 1) := by decide +kernel
theorem dL_fit_21 : decode cL_fit 21 = .ok (.astore 4, 2) := by decide +kernel
theorem dL_fit_23 : decode cL_fit 23 = .ok (.iconst 3, 1) := by decide +kernel
theorem dL_fit_24 : decode cL_fit 24 = .ok (.ireturn, 1) := by decide +kernel
theorem dL_fit_25 : decode cL_fit 25 = .ok (.iconst 0, 1) := by decide +kernel
theorem dL_fit_26 : decode cL_fit 26 = .ok (.ireturn, 1) := by decide +kernel
theorem dL_take_0 : decode cL_take 0 = .ok (.aload_n 2, 1) := by decide +kernel
theorem dL_take_1 : decode cL_take 1 = .ok (.iconst 0, 1) := by decide +kernel
theorem dL_take_2 : decode cL_take 2 = .ok (.aload_n 0, 1) := by decide +kernel
theorem dL_take_3 : decode cL_take 3 = .ok (.iload_n 1, 1) := by decide +kernel
theorem dL_take_4 : decode cL_take 4 = .ok (.invokevirtual 27, 3) := by decide +kernel
theorem dL_take_7 : decode cL_take 7 = .ok (.i2l, 1) := by decide +kernel
theorem dL_take_8 : decode cL_take 8 = .ok (.lastore, 1) := by decide +kernel
theorem dL_take_9 : decode cL_take 9 = .ok (.goto 9, 3) := by decide +kernel
theorem dL_take_12 : decode cL_take 12 = .ok (.astore_n 3, 1) := by decide +kernel
theorem dL_take_13 : decode cL_take 13 = .ok (.iconst 1, 1) := by decide +kernel
theorem dL_take_14 : decode cL_take 14 = .ok (.ireturn, 1) := by decide +kernel
theorem dL_take_15 : decode cL_take 15 = .ok (.astore_n 3, 1) := by decide +kernel
theorem dL_take_16 : decode cL_take 16 = .ok (.iconst 2, 1) := by decide +kernel
theorem dL_take_17 : decode cL_take 17 = .ok (.ireturn, 1) := by decide +kernel
theorem dL_take_18 : decode cL_take 18 = .ok (.iconst 0, 1) := by decide +kernel
theorem dL_take_19 : decode cL_take 19 = .ok (.ireturn, 1) := by decide +kernel
theorem dL_scrap_0 : decode cL_scrap 0 = .ok (.aload_n 0, 1) := by decide +kernel
theorem dL_scrap_1 : decode cL_scrap 1 = .ok (.iload_n 1, 1) := by decide +kernel
theorem dL_scrap_2 : decode cL_scrap 2 = .ok (.invokevirtual 31, 3) := by decide +kernel
theorem dL_scrap_5 : decode cL_scrap 5 = .ok (.goto 9, 3) := by decide +kernel
theorem dL_scrap_8 : decode cL_scrap 8 = .ok (.astore_n 2, 1) := by decide +kernel
theorem dL_scrap_9 : decode cL_scrap 9 = .ok (.iconst 1, 1) := by decide +kernel
theorem dL_scrap_10 : decode cL_scrap 10 = .ok (.ireturn, 1) := by decide +kernel
theorem dL_scrap_11 : decode cL_scrap 11 = .ok (.astore_n 2, 1) := by decide +kernel
theorem dL_scrap_12 : decode cL_scrap 12 = .ok (.iconst 2, 1) := by decide +kernel
theorem dL_scrap_13 : decode cL_scrap 13 = .ok (.ireturn, 1) := by decide +kernel
theorem dL_scrap_14 : decode cL_scrap 14 = .ok (.iconst 0, 1) := by decide +kernel
theorem dL_scrap_15 : decode cL_scrap 15 = .ok (.ireturn, 1) := by decide +kernel
theorem dL_run_0 : decode cL_run 0 = .ok (.aload 4, 2) := by decide +kernel
theorem dL_run_2 : decode cL_run 2 = .ok (.iconst 0, 1) := by decide +kernel
theorem dL_run_3 : decode cL_run 3 = .ok (.aload_n 0, 1) := by decide +kernel
theorem dL_run_4 : decode cL_run 4 = .ok (.iload_n 1, 1) := by decide +kernel
theorem dL_run_5 : decode cL_run 5 = .ok (.iload_n 2, 1) := by decide +kernel
theorem dL_run_6 : decode cL_run 6 = .ok (.iload_n 3, 1) := by decide +kernel
theorem dL_run_7 : decode cL_run 7 = .ok (.invokevirtual 35, 3) := by decide +kernel
theorem dL_run_10 : decode cL_run 10 = .ok (.i2l, 1) := by decide +kernel
theorem dL_run_11 : decode cL_run 11 = .ok (.lastore, 1) := by decide +kernel
theorem dL_run_12 : decode cL_run 12 = .ok (.goto 15, 3) := by decide +kernel
theorem dL_run_15 : decode cL_run 15 = .ok (.astore 5, 2) := by decide +kernel
theorem dL_run_17 : decode cL_run 17 = .ok (.iconst 1, 1) := by decide +kernel
theorem dL_run_18 : decode cL_run 18 = .ok (.ireturn, 1) := by decide +kernel
theorem dL_run_19 : decode cL_run 19 = .ok (.astore 5, 2) := by decide +kernel
theorem dL_run_21 : decode cL_run 21 = .ok (.iconst 2, 1) := by decide +kernel
theorem dL_run_22 : decode cL_run 22 = .ok (.ireturn, 1) := by decide +kernel
theorem dL_run_23 : decode cL_run 23 = .ok (.astore 5, 2) := by decide +kernel
theorem dL_run_25 : decode cL_run 25 = .ok (.iconst 3, 1) := by decide +kernel
theorem dL_run_26 : decode cL_run 26 = .ok (.ireturn, 1) := by decide +kernel
theorem dL_run_27 : decode cL_run 27 = .ok (.iconst 0, 1) := by decide +kernel
theorem dL_run_28 : decode cL_run 28 = .ok (.ireturn, 1) := by decide +kernel
theorem dL_turn_0 : decode cL_turn 0 = .ok (.aload_n 2, 1) := by decide +kernel
theorem dL_turn_1 : decode cL_turn 1 = .ok (.iconst 0, 1) := by decide +kernel
theorem dL_turn_2 : decode cL_turn 2 = .ok (.aload_n 0, 1) := by decide +kernel
theorem dL_turn_3 : decode cL_turn 3 = .ok (.iload_n 1, 1) := by decide +kernel
theorem dL_turn_4 : decode cL_turn 4 = .ok (.invokevirtual 38, 3) := by decide +kernel
theorem dL_turn_7 : decode cL_turn 7 = .ok (.i2l, 1) := by decide +kernel
theorem dL_turn_8 : decode cL_turn 8 = .ok (.lastore, 1) := by decide +kernel
theorem dL_turn_9 : decode cL_turn 9 = .ok (.goto 12, 3) := by decide +kernel
theorem dL_turn_12 : decode cL_turn 12 = .ok (.astore_n 3, 1) := by decide +kernel
theorem dL_turn_13 : decode cL_turn 13 = .ok (.iconst 1, 1) := by decide +kernel
theorem dL_turn_14 : decode cL_turn 14 = .ok (.ireturn, 1) := by decide +kernel
theorem dL_turn_15 : decode cL_turn 15 = .ok (.astore_n 3, 1) := by decide +kernel
theorem dL_turn_16 : decode cL_turn 16 = .ok (.iconst 2, 1) := by decide +kernel
theorem dL_turn_17 : decode cL_turn 17 = .ok (.ireturn, 1) := by decide +kernel
theorem dL_turn_18 : decode cL_turn 18 = .ok (.astore_n 3, 1) := by decide +kernel
theorem dL_turn_19 : decode cL_turn 19 = .ok (.iconst 3, 1) := by decide +kernel
theorem dL_turn_20 : decode cL_turn 20 = .ok (.ireturn, 1) := by decide +kernel
theorem dL_turn_21 : decode cL_turn 21 = .ok (.iconst 0, 1) := by decide +kernel
theorem dL_turn_22 : decode cL_turn 22 = .ok (.ireturn, 1) := by decide +kernel
theorem dL_gate_0 : decode cL_gate 0 = .ok (.aload_n 3, 1) := by decide +kernel
theorem dL_gate_1 : decode cL_gate 1 = .ok (.iconst 0, 1) := by decide +kernel
theorem dL_gate_2 : decode cL_gate 2 = .ok (.aload_n 0, 1) := by decide +kernel
theorem dL_gate_3 : decode cL_gate 3 = .ok (.iload_n 1, 1) := by decide +kernel
theorem dL_gate_4 : decode cL_gate 4 = .ok (.iload_n 2, 1) := by decide +kernel
theorem dL_gate_5 : decode cL_gate 5 = .ok (.invokevirtual 41, 3) := by decide +kernel
theorem dL_gate_8 : decode cL_gate 8 = .ok (.i2l, 1) := by decide +kernel
theorem dL_gate_9 : decode cL_gate 9 = .ok (.lastore, 1) := by decide +kernel
theorem dL_gate_10 : decode cL_gate 10 = .ok (.goto 11, 3) := by decide +kernel
theorem dL_gate_13 : decode cL_gate 13 = .ok (.astore 4, 2) := by decide +kernel
theorem dL_gate_15 : decode cL_gate 15 = .ok (.iconst 1, 1) := by decide +kernel
theorem dL_gate_16 : decode cL_gate 16 = .ok (.ireturn, 1) := by decide +kernel
theorem dL_gate_17 : decode cL_gate 17 = .ok (.astore 4, 2) := by decide +kernel
theorem dL_gate_19 : decode cL_gate 19 = .ok (.iconst 2, 1) := by decide +kernel
theorem dL_gate_20 : decode cL_gate 20 = .ok (.ireturn, 1) := by decide +kernel
theorem dL_gate_21 : decode cL_gate 21 = .ok (.iconst 0, 1) := by decide +kernel
theorem dL_gate_22 : decode cL_gate 22 = .ok (.ireturn, 1) := by decide +kernel
theorem dL_examine_0 : decode cL_examine 0 = .ok (.aload_n 2, 1) := by decide +kernel
theorem dL_examine_1 : decode cL_examine 1 = .ok (.iconst 0, 1) := by decide +kernel
theorem dL_examine_2 : decode cL_examine 2 = .ok (.aload_n 0, 1) := by decide +kernel
theorem dL_examine_3 : decode cL_examine 3 = .ok (.iload_n 1, 1) := by decide +kernel
theorem dL_examine_4 : decode cL_examine 4 = .ok (.invokevirtual 44, 3) := by decide +kernel
theorem dL_examine_7 : decode cL_examine 7 = .ok (.i2l, 1) := by decide +kernel
theorem dL_examine_8 : decode cL_examine 8 = .ok (.lastore, 1) := by decide +kernel
theorem dL_examine_9 : decode cL_examine 9 = .ok (.goto 9, 3) := by decide +kernel
theorem dL_examine_12 : decode cL_examine 12 = .ok (.astore_n 3, 1) := by decide +kernel
theorem dL_examine_13 : decode cL_examine 13 = .ok (.iconst 1, 1) := by decide +kernel
theorem dL_examine_14 : decode cL_examine 14 = .ok (.ireturn, 1) := by decide +kernel
theorem dL_examine_15 : decode cL_examine 15 = .ok (.astore_n 3, 1) := by decide +kernel
theorem dL_examine_16 : decode cL_examine 16 = .ok (.iconst 2, 1) := by decide +kernel
theorem dL_examine_17 : decode cL_examine 17 = .ok (.ireturn, 1) := by decide +kernel
theorem dL_examine_18 : decode cL_examine 18 = .ok (.iconst 0, 1) := by decide +kernel
theorem dL_examine_19 : decode cL_examine 19 = .ok (.ireturn, 1) := by decide +kernel
theorem dL_waive_0 : decode cL_waive 0 = .ok (.aload_n 0, 1) := by decide +kernel
theorem dL_waive_1 : decode cL_waive 1 = .ok (.iload_n 1, 1) := by decide +kernel
theorem dL_waive_2 : decode cL_waive 2 = .ok (.iload_n 2, 1) := by decide +kernel
theorem dL_waive_3 : decode cL_waive 3 = .ok (.invokevirtual 47, 3) := by decide +kernel
theorem dL_waive_6 : decode cL_waive 6 = .ok (.goto 12, 3) := by decide +kernel
theorem dL_waive_9 : decode cL_waive 9 = .ok (.astore_n 3, 1) := by decide +kernel
theorem dL_waive_10 : decode cL_waive 10 = .ok (.iconst 1, 1) := by decide +kernel
theorem dL_waive_11 : decode cL_waive 11 = .ok (.ireturn, 1) := by decide +kernel
theorem dL_waive_12 : decode cL_waive 12 = .ok (.astore_n 3, 1) := by decide +kernel
theorem dL_waive_13 : decode cL_waive 13 = .ok (.iconst 2, 1) := by decide +kernel
theorem dL_waive_14 : decode cL_waive 14 = .ok (.ireturn, 1) := by decide +kernel
theorem dL_waive_15 : decode cL_waive 15 = .ok (.astore_n 3, 1) := by decide +kernel
theorem dL_waive_16 : decode cL_waive 16 = .ok (.iconst 3, 1) := by decide +kernel
theorem dL_waive_17 : decode cL_waive 17 = .ok (.ireturn, 1) := by decide +kernel
theorem dL_waive_18 : decode cL_waive 18 = .ok (.iconst 0, 1) := by decide +kernel
theorem dL_waive_19 : decode cL_waive 19 = .ok (.ireturn, 1) := by decide +kernel
theorem dL_flaw_0 : decode cL_flaw 0 = .ok (.aload_n 3, 1) := by decide +kernel
theorem dL_flaw_1 : decode cL_flaw 1 = .ok (.iconst 0, 1) := by decide +kernel
theorem dL_flaw_2 : decode cL_flaw 2 = .ok (.aload_n 0, 1) := by decide +kernel
theorem dL_flaw_3 : decode cL_flaw 3 = .ok (.iload_n 1, 1) := by decide +kernel
theorem dL_flaw_4 : decode cL_flaw 4 = .ok (.iload_n 2, 1) := by decide +kernel
theorem dL_flaw_5 : decode cL_flaw 5 = .ok (.invokevirtual 51, 3) := by decide +kernel
theorem dL_flaw_8 : decode cL_flaw 8 = .ok (.i2l, 1) := by decide +kernel
theorem dL_flaw_9 : decode cL_flaw 9 = .ok (.lastore, 1) := by decide +kernel
theorem dL_flaw_10 : decode cL_flaw 10 = .ok (.goto 11, 3) := by decide +kernel
theorem dL_flaw_13 : decode cL_flaw 13 = .ok (.astore 4, 2) := by decide +kernel
theorem dL_flaw_15 : decode cL_flaw 15 = .ok (.iconst 1, 1) := by decide +kernel
theorem dL_flaw_16 : decode cL_flaw 16 = .ok (.ireturn, 1) := by decide +kernel
theorem dL_flaw_17 : decode cL_flaw 17 = .ok (.astore 4, 2) := by decide +kernel
theorem dL_flaw_19 : decode cL_flaw 19 = .ok (.iconst 2, 1) := by decide +kernel
theorem dL_flaw_20 : decode cL_flaw 20 = .ok (.ireturn, 1) := by decide +kernel
theorem dL_flaw_21 : decode cL_flaw 21 = .ok (.iconst 0, 1) := by decide +kernel
theorem dL_flaw_22 : decode cL_flaw 22 = .ok (.ireturn, 1) := by decide +kernel
theorem dL_look_0 : decode cL_look 0 = .ok (.aload_n 3, 1) := by decide +kernel
theorem dL_look_1 : decode cL_look 1 = .ok (.iconst 0, 1) := by decide +kernel
theorem dL_look_2 : decode cL_look 2 = .ok (.aload_n 0, 1) := by decide +kernel
theorem dL_look_3 : decode cL_look 3 = .ok (.iload_n 1, 1) := by decide +kernel
theorem dL_look_4 : decode cL_look 4 = .ok (.iload_n 2, 1) := by decide +kernel
theorem dL_look_5 : decode cL_look 5 = .ok (.invokevirtual 54, 3) := by decide +kernel
theorem dL_look_8 : decode cL_look 8 = .ok (.i2l, 1) := by decide +kernel
theorem dL_look_9 : decode cL_look 9 = .ok (.lastore, 1) := by decide +kernel
theorem dL_look_10 : decode cL_look 10 = .ok (.goto 11, 3) := by decide +kernel
theorem dL_look_13 : decode cL_look 13 = .ok (.astore 4, 2) := by decide +kernel
theorem dL_look_15 : decode cL_look 15 = .ok (.iconst 1, 1) := by decide +kernel
theorem dL_look_16 : decode cL_look 16 = .ok (.ireturn, 1) := by decide +kernel
theorem dL_look_17 : decode cL_look 17 = .ok (.astore 4, 2) := by decide +kernel
theorem dL_look_19 : decode cL_look 19 = .ok (.iconst 2, 1) := by decide +kernel
theorem dL_look_20 : decode cL_look 20 = .ok (.ireturn, 1) := by decide +kernel
theorem dL_look_21 : decode cL_look 21 = .ok (.iconst 0, 1) := by decide +kernel
theorem dL_look_22 : decode cL_look 22 = .ok (.ireturn, 1) := by decide +kernel
theorem dL_clear_0 : decode cL_clear 0 = .ok (.aload_n 2, 1) := by decide +kernel
theorem dL_clear_1 : decode cL_clear 1 = .ok (.iconst 0, 1) := by decide +kernel
theorem dL_clear_2 : decode cL_clear 2 = .ok (.aload_n 0, 1) := by decide +kernel
theorem dL_clear_3 : decode cL_clear 3 = .ok (.iload_n 1, 1) := by decide +kernel
theorem dL_clear_4 : decode cL_clear 4 = .ok (.invokevirtual 58, 3) := by decide +kernel
theorem dL_clear_7 : decode cL_clear 7 = .ok (.i2l, 1) := by decide +kernel
theorem dL_clear_8 : decode cL_clear 8 = .ok (.lastore, 1) := by decide +kernel
theorem dL_clear_9 : decode cL_clear 9 = .ok (.goto 9, 3) := by decide +kernel
theorem dL_clear_12 : decode cL_clear 12 = .ok (.astore_n 3, 1) := by decide +kernel
theorem dL_clear_13 : decode cL_clear 13 = .ok (.iconst 1, 1) := by decide +kernel
theorem dL_clear_14 : decode cL_clear 14 = .ok (.ireturn, 1) := by decide +kernel
theorem dL_clear_15 : decode cL_clear 15 = .ok (.astore_n 3, 1) := by decide +kernel
theorem dL_clear_16 : decode cL_clear 16 = .ok (.iconst 2, 1) := by decide +kernel
theorem dL_clear_17 : decode cL_clear 17 = .ok (.ireturn, 1) := by decide +kernel
theorem dL_clear_18 : decode cL_clear 18 = .ok (.iconst 0, 1) := by decide +kernel
theorem dL_clear_19 : decode cL_clear 19 = .ok (.ireturn, 1) := by decide +kernel
theorem dL_recall_0 : decode cL_recall 0 = .ok (.aload_n 2, 1) := by decide +kernel
theorem dL_recall_1 : decode cL_recall 1 = .ok (.iconst 0, 1) := by decide +kernel
theorem dL_recall_2 : decode cL_recall 2 = .ok (.aload_n 0, 1) := by decide +kernel
theorem dL_recall_3 : decode cL_recall 3 = .ok (.iload_n 1, 1) := by decide +kernel
theorem dL_recall_4 : decode cL_recall 4 = .ok (.invokevirtual 61, 3) := by decide +kernel
theorem dL_recall_7 : decode cL_recall 7 = .ok (.i2l, 1) := by decide +kernel
theorem dL_recall_8 : decode cL_recall 8 = .ok (.lastore, 1) := by decide +kernel
theorem dL_recall_9 : decode cL_recall 9 = .ok (.goto 6, 3) := by decide +kernel
theorem dL_recall_12 : decode cL_recall 12 = .ok (.astore_n 3, 1) := by decide +kernel
theorem dL_recall_13 : decode cL_recall 13 = .ok (.iconst 1, 1) := by decide +kernel
theorem dL_recall_14 : decode cL_recall 14 = .ok (.ireturn, 1) := by decide +kernel
theorem dL_recall_15 : decode cL_recall 15 = .ok (.iconst 0, 1) := by decide +kernel
theorem dL_recall_16 : decode cL_recall 16 = .ok (.ireturn, 1) := by decide +kernel
theorem dL_release_0 : decode cL_release 0 = .ok (.aload_n 2, 1) := by decide +kernel
theorem dL_release_1 : decode cL_release 1 = .ok (.iconst 0, 1) := by decide +kernel
theorem dL_release_2 : decode cL_release 2 = .ok (.aload_n 0, 1) := by decide +kernel
theorem dL_release_3 : decode cL_release 3 = .ok (.iload_n 1, 1) := by decide +kernel
theorem dL_release_4 : decode cL_release 4 = .ok (.invokevirtual 64, 3) := by decide +kernel
theorem dL_release_7 : decode cL_release 7 = .ok (.i2l, 1) := by decide +kernel
theorem dL_release_8 : decode cL_release 8 = .ok (.lastore, 1) := by decide +kernel
theorem dL_release_9 : decode cL_release 9 = .ok (.goto 9, 3) := by decide +kernel
theorem dL_release_12 : decode cL_release 12 = .ok (.astore_n 3, 1) := by decide +kernel
theorem dL_release_13 : decode cL_release 13 = .ok (.iconst 1, 1) := by decide +kernel
theorem dL_release_14 : decode cL_release 14 = .ok (.ireturn, 1) := by decide +kernel
theorem dL_release_15 : decode cL_release 15 = .ok (.astore_n 3, 1) := by decide +kernel
theorem dL_release_16 : decode cL_release 16 = .ok (.iconst 2, 1) := by decide +kernel
theorem dL_release_17 : decode cL_release 17 = .ok (.ireturn, 1) := by decide +kernel
theorem dL_release_18 : decode cL_release 18 = .ok (.iconst 0, 1) := by decide +kernel
theorem dL_release_19 : decode cL_release 19 = .ok (.ireturn, 1) := by decide +kernel
theorem dL_comes_0 : decode cL_comes 0 = .ok (.aload_n 3, 1) := by decide +kernel
theorem dL_comes_1 : decode cL_comes 1 = .ok (.iconst 0, 1) := by decide +kernel
theorem dL_comes_2 : decode cL_comes 2 = .ok (.aload_n 0, 1) := by decide +kernel
theorem dL_comes_3 : decode cL_comes 3 = .ok (.iload_n 1, 1) := by decide +kernel
theorem dL_comes_4 : decode cL_comes 4 = .ok (.iload_n 2, 1) := by decide +kernel
theorem dL_comes_5 : decode cL_comes 5 = .ok (.invokevirtual 67, 3) := by decide +kernel
theorem dL_comes_8 : decode cL_comes 8 = .ok (.i2l, 1) := by decide +kernel
theorem dL_comes_9 : decode cL_comes 9 = .ok (.lastore, 1) := by decide +kernel
theorem dL_comes_10 : decode cL_comes 10 = .ok (.goto 15, 3) := by decide +kernel
theorem dL_comes_13 : decode cL_comes 13 = .ok (.astore 4, 2) := by decide +kernel
theorem dL_comes_15 : decode cL_comes 15 = .ok (.iconst 1, 1) := by decide +kernel
theorem dL_comes_16 : decode cL_comes 16 = .ok (.ireturn, 1) := by decide +kernel
theorem dL_comes_17 : decode cL_comes 17 = .ok (.astore 4, 2) := by decide +kernel
theorem dL_comes_19 : decode cL_comes 19 = .ok (.iconst 2, 1) := by decide +kernel
theorem dL_comes_20 : decode cL_comes 20 = .ok (.ireturn, 1) := by decide +kernel
theorem dL_comes_21 : decode cL_comes 21 = .ok (.astore 4, 2) := by decide +kernel
theorem dL_comes_23 : decode cL_comes 23 = .ok (.iconst 3, 1) := by decide +kernel
theorem dL_comes_24 : decode cL_comes 24 = .ok (.ireturn, 1) := by decide +kernel
theorem dL_comes_25 : decode cL_comes 25 = .ok (.iconst 0, 1) := by decide +kernel
theorem dL_comes_26 : decode cL_comes 26 = .ok (.ireturn, 1) := by decide +kernel
theorem dL_night_0 : decode cL_night 0 = .ok (.aload_n 1, 1) := by decide +kernel
theorem dL_night_1 : decode cL_night 1 = .ok (.iconst 0, 1) := by decide +kernel
theorem dL_night_2 : decode cL_night 2 = .ok (.aload_n 0, 1) := by decide +kernel
theorem dL_night_3 : decode cL_night 3 = .ok (.invokevirtual 70, 3) := by decide +kernel
theorem dL_night_6 : decode cL_night 6 = .ok (.i2l, 1) := by decide +kernel
theorem dL_night_7 : decode cL_night 7 = .ok (.lastore, 1) := by decide +kernel
theorem dL_night_8 : decode cL_night 8 = .ok (.goto 6, 3) := by decide +kernel
theorem dL_night_11 : decode cL_night 11 = .ok (.astore_n 2, 1) := by decide +kernel
theorem dL_night_12 : decode cL_night 12 = .ok (.iconst 1, 1) := by decide +kernel
theorem dL_night_13 : decode cL_night 13 = .ok (.ireturn, 1) := by decide +kernel
theorem dL_night_14 : decode cL_night 14 = .ok (.iconst 0, 1) := by decide +kernel
theorem dL_night_15 : decode cL_night 15 = .ok (.ireturn, 1) := by decide +kernel
theorem dL_out_0 : decode cL_out 0 = .ok (.aload_n 1, 1) := by decide +kernel
theorem dL_out_1 : decode cL_out 1 = .ok (.iconst 0, 1) := by decide +kernel
theorem dL_out_2 : decode cL_out 2 = .ok (.aload_n 0, 1) := by decide +kernel
theorem dL_out_3 : decode cL_out 3 = .ok (.invokevirtual 74, 3) := by decide +kernel
theorem dL_out_6 : decode cL_out 6 = .ok (.i2l, 1) := by decide +kernel
theorem dL_out_7 : decode cL_out 7 = .ok (.lastore, 1) := by decide +kernel
theorem dL_out_8 : decode cL_out 8 = .ok (.goto 6, 3) := by decide +kernel
theorem dL_out_11 : decode cL_out 11 = .ok (.astore_n 2, 1) := by decide +kernel
theorem dL_out_12 : decode cL_out 12 = .ok (.iconst 1, 1) := by decide +kernel
theorem dL_out_13 : decode cL_out 13 = .ok (.ireturn, 1) := by decide +kernel
theorem dL_out_14 : decode cL_out 14 = .ok (.iconst 0, 1) := by decide +kernel
theorem dL_out_15 : decode cL_out 15 = .ok (.ireturn, 1) := by decide +kernel
theorem dL_host_0 : decode cL_host 0 = .ok (.aload_n 2, 1) := by decide +kernel
theorem dL_host_1 : decode cL_host 1 = .ok (.iconst 0, 1) := by decide +kernel
theorem dL_host_2 : decode cL_host 2 = .ok (.aload_n 0, 1) := by decide +kernel
theorem dL_host_3 : decode cL_host 3 = .ok (.iload_n 1, 1) := by decide +kernel
theorem dL_host_4 : decode cL_host 4 = .ok (.invokevirtual 77, 3) := by decide +kernel
theorem dL_host_7 : decode cL_host 7 = .ok (.i2l, 1) := by decide +kernel
theorem dL_host_8 : decode cL_host 8 = .ok (.lastore, 1) := by decide +kernel
theorem dL_host_9 : decode cL_host 9 = .ok (.goto 6, 3) := by decide +kernel
theorem dL_host_12 : decode cL_host 12 = .ok (.astore_n 3, 1) := by decide +kernel
theorem dL_host_13 : decode cL_host 13 = .ok (.iconst 1, 1) := by decide +kernel
theorem dL_host_14 : decode cL_host 14 = .ok (.ireturn, 1) := by decide +kernel
theorem dL_host_15 : decode cL_host 15 = .ok (.iconst 0, 1) := by decide +kernel
theorem dL_host_16 : decode cL_host 16 = .ok (.ireturn, 1) := by decide +kernel
theorem dL_head_0 : decode cL_head 0 = .ok (.aload_n 2, 1) := by decide +kernel
theorem dL_head_1 : decode cL_head 1 = .ok (.iconst 0, 1) := by decide +kernel
theorem dL_head_2 : decode cL_head 2 = .ok (.aload_n 0, 1) := by decide +kernel
theorem dL_head_3 : decode cL_head 3 = .ok (.iload_n 1, 1) := by decide +kernel
theorem dL_head_4 : decode cL_head 4 = .ok (.invokevirtual 80, 3) := by decide +kernel
theorem dL_head_7 : decode cL_head 7 = .ok (.i2l, 1) := by decide +kernel
theorem dL_head_8 : decode cL_head 8 = .ok (.lastore, 1) := by decide +kernel
theorem dL_head_9 : decode cL_head 9 = .ok (.goto 6, 3) := by decide +kernel
theorem dL_head_12 : decode cL_head 12 = .ok (.astore_n 3, 1) := by decide +kernel
theorem dL_head_13 : decode cL_head 13 = .ok (.iconst 1, 1) := by decide +kernel
theorem dL_head_14 : decode cL_head 14 = .ok (.ireturn, 1) := by decide +kernel
theorem dL_head_15 : decode cL_head 15 = .ok (.iconst 0, 1) := by decide +kernel
theorem dL_head_16 : decode cL_head 16 = .ok (.ireturn, 1) := by decide +kernel
theorem dL_ofPart_0 : decode cL_ofPart 0 = .ok (.aload_n 3, 1) := by decide +kernel
theorem dL_ofPart_1 : decode cL_ofPart 1 = .ok (.iconst 0, 1) := by decide +kernel
theorem dL_ofPart_2 : decode cL_ofPart 2 = .ok (.aload_n 0, 1) := by decide +kernel
theorem dL_ofPart_3 : decode cL_ofPart 3 = .ok (.iload_n 1, 1) := by decide +kernel
theorem dL_ofPart_4 : decode cL_ofPart 4 = .ok (.iload_n 2, 1) := by decide +kernel
theorem dL_ofPart_5 : decode cL_ofPart 5 = .ok (.invokevirtual 83, 3) := by decide +kernel
theorem dL_ofPart_8 : decode cL_ofPart 8 = .ok (.i2l, 1) := by decide +kernel
theorem dL_ofPart_9 : decode cL_ofPart 9 = .ok (.lastore, 1) := by decide +kernel
theorem dL_ofPart_10 : decode cL_ofPart 10 = .ok (.goto 11, 3) := by decide +kernel
theorem dL_ofPart_13 : decode cL_ofPart 13 = .ok (.astore 4, 2) := by decide +kernel
theorem dL_ofPart_15 : decode cL_ofPart 15 = .ok (.iconst 1, 1) := by decide +kernel
theorem dL_ofPart_16 : decode cL_ofPart 16 = .ok (.ireturn, 1) := by decide +kernel
theorem dL_ofPart_17 : decode cL_ofPart 17 = .ok (.astore 4, 2) := by decide +kernel
theorem dL_ofPart_19 : decode cL_ofPart 19 = .ok (.iconst 2, 1) := by decide +kernel
theorem dL_ofPart_20 : decode cL_ofPart 20 = .ok (.ireturn, 1) := by decide +kernel
theorem dL_ofPart_21 : decode cL_ofPart 21 = .ok (.iconst 0, 1) := by decide +kernel
theorem dL_ofPart_22 : decode cL_ofPart 22 = .ok (.ireturn, 1) := by decide +kernel
theorem dL_trace_0 : decode cL_trace 0 = .ok (.aload_n 3, 1) := by decide +kernel
theorem dL_trace_1 : decode cL_trace 1 = .ok (.iconst 0, 1) := by decide +kernel
theorem dL_trace_2 : decode cL_trace 2 = .ok (.aload_n 0, 1) := by decide +kernel
theorem dL_trace_3 : decode cL_trace 3 = .ok (.iload_n 1, 1) := by decide +kernel
theorem dL_trace_4 : decode cL_trace 4 = .ok (.iload_n 2, 1) := by decide +kernel
theorem dL_trace_5 : decode cL_trace 5 = .ok (.invokevirtual 86, 3) := by decide +kernel
theorem dL_trace_8 : decode cL_trace 8 = .ok (.i2l, 1) := by decide +kernel
theorem dL_trace_9 : decode cL_trace 9 = .ok (.lastore, 1) := by decide +kernel
theorem dL_trace_10 : decode cL_trace 10 = .ok (.goto 7, 3) := by decide +kernel
theorem dL_trace_13 : decode cL_trace 13 = .ok (.astore 4, 2) := by decide +kernel
theorem dL_trace_15 : decode cL_trace 15 = .ok (.iconst 1, 1) := by decide +kernel
theorem dL_trace_16 : decode cL_trace 16 = .ok (.ireturn, 1) := by decide +kernel
theorem dL_trace_17 : decode cL_trace 17 = .ok (.iconst 0, 1) := by decide +kernel
theorem dL_trace_18 : decode cL_trace 18 = .ok (.ireturn, 1) := by decide +kernel
theorem dL_lifeAnew_0 : decode cL_lifeAnew 0 = .ok (.aload_n 2, 1) := by decide +kernel
theorem dL_lifeAnew_1 : decode cL_lifeAnew 1 = .ok (.iconst 0, 1) := by decide +kernel
theorem dL_lifeAnew_2 : decode cL_lifeAnew 2 = .ok (.aload_n 0, 1) := by decide +kernel
theorem dL_lifeAnew_3 : decode cL_lifeAnew 3 = .ok (.iload_n 1, 1) := by decide +kernel
theorem dL_lifeAnew_4 : decode cL_lifeAnew 4 = .ok (.invokevirtual 89, 3) := by decide +kernel
theorem dL_lifeAnew_7 : decode cL_lifeAnew 7 = .ok (.i2l, 1) := by decide +kernel
theorem dL_lifeAnew_8 : decode cL_lifeAnew 8 = .ok (.lastore, 1) := by decide +kernel
theorem dL_lifeAnew_9 : decode cL_lifeAnew 9 = .ok (.goto 6, 3) := by decide +kernel
theorem dL_lifeAnew_12 : decode cL_lifeAnew 12 = .ok (.astore_n 3, 1) := by decide +kernel
theorem dL_lifeAnew_13 : decode cL_lifeAnew 13 = .ok (.iconst 1, 1) := by decide +kernel
theorem dL_lifeAnew_14 : decode cL_lifeAnew 14 = .ok (.ireturn, 1) := by decide +kernel
theorem dL_lifeAnew_15 : decode cL_lifeAnew 15 = .ok (.iconst 0, 1) := by decide +kernel
theorem dL_lifeAnew_16 : decode cL_lifeAnew 16 = .ok (.ireturn, 1) := by decide +kernel
theorem dL_wheel_0 : decode cL_wheel 0 = .ok (.aload_n 3, 1) := by decide +kernel
theorem dL_wheel_1 : decode cL_wheel 1 = .ok (.iconst 0, 1) := by decide +kernel
theorem dL_wheel_2 : decode cL_wheel 2 = .ok (.aload_n 0, 1) := by decide +kernel
theorem dL_wheel_3 : decode cL_wheel 3 = .ok (.iload_n 1, 1) := by decide +kernel
theorem dL_wheel_4 : decode cL_wheel 4 = .ok (.iload_n 2, 1) := by decide +kernel
theorem dL_wheel_5 : decode cL_wheel 5 = .ok (.invokevirtual 92, 3) := by decide +kernel
theorem dL_wheel_8 : decode cL_wheel 8 = .ok (.i2l, 1) := by decide +kernel
theorem dL_wheel_9 : decode cL_wheel 9 = .ok (.lastore, 1) := by decide +kernel
theorem dL_wheel_10 : decode cL_wheel 10 = .ok (.goto 11, 3) := by decide +kernel
theorem dL_wheel_13 : decode cL_wheel 13 = .ok (.astore 4, 2) := by decide +kernel
theorem dL_wheel_15 : decode cL_wheel 15 = .ok (.iconst 1, 1) := by decide +kernel
theorem dL_wheel_16 : decode cL_wheel 16 = .ok (.ireturn, 1) := by decide +kernel
theorem dL_wheel_17 : decode cL_wheel 17 = .ok (.astore 4, 2) := by decide +kernel
theorem dL_wheel_19 : decode cL_wheel 19 = .ok (.iconst 2, 1) := by decide +kernel
theorem dL_wheel_20 : decode cL_wheel 20 = .ok (.ireturn, 1) := by decide +kernel
theorem dL_wheel_21 : decode cL_wheel 21 = .ok (.iconst 0, 1) := by decide +kernel
theorem dL_wheel_22 : decode cL_wheel 22 = .ok (.ireturn, 1) := by decide +kernel
theorem dL_foretell_0 : decode cL_foretell 0 = .ok (.aload 4, 2) := by decide +kernel
theorem dL_foretell_2 : decode cL_foretell 2 = .ok (.iconst 0, 1) := by decide +kernel
theorem dL_foretell_3 : decode cL_foretell 3 = .ok (.aload_n 0, 1) := by decide +kernel
theorem dL_foretell_4 : decode cL_foretell 4 = .ok (.iload_n 1, 1) := by decide +kernel
theorem dL_foretell_5 : decode cL_foretell 5 = .ok (.iload_n 2, 1) := by decide +kernel
theorem dL_foretell_6 : decode cL_foretell 6 = .ok (.iload_n 3, 1) := by decide +kernel
theorem dL_foretell_7 : decode cL_foretell 7 = .ok (.invokevirtual 95, 3) := by decide +kernel
theorem dL_foretell_10 : decode cL_foretell 10 = .ok (.i2l, 1) := by decide +kernel
theorem dL_foretell_11 : decode cL_foretell 11 = .ok (.lastore, 1) := by decide +kernel
theorem dL_foretell_12 : decode cL_foretell 12 = .ok (.goto 11, 3) := by decide +kernel
theorem dL_foretell_15 : decode cL_foretell 15 = .ok (.astore 5, 2) := by decide +kernel
theorem dL_foretell_17 : decode cL_foretell 17 = .ok (.iconst 1, 1) := by decide +kernel
theorem dL_foretell_18 : decode cL_foretell 18 = .ok (.ireturn, 1) := by decide +kernel
theorem dL_foretell_19 : decode cL_foretell 19 = .ok (.astore 5, 2) := by decide +kernel
theorem dL_foretell_21 : decode cL_foretell 21 = .ok (.iconst 2, 1) := by decide +kernel
theorem dL_foretell_22 : decode cL_foretell 22 = .ok (.ireturn, 1) := by decide +kernel
theorem dL_foretell_23 : decode cL_foretell 23 = .ok (.iconst 0, 1) := by decide +kernel
theorem dL_foretell_24 : decode cL_foretell 24 = .ok (.ireturn, 1) := by decide +kernel
theorem dL_bars_0 : decode cL_bars 0 = .ok (.aload_n 2, 1) := by decide +kernel
theorem dL_bars_1 : decode cL_bars 1 = .ok (.iconst 0, 1) := by decide +kernel
theorem dL_bars_2 : decode cL_bars 2 = .ok (.aload_n 0, 1) := by decide +kernel
theorem dL_bars_3 : decode cL_bars 3 = .ok (.iload_n 1, 1) := by decide +kernel
theorem dL_bars_4 : decode cL_bars 4 = .ok (.invokevirtual 98, 3) := by decide +kernel
theorem dL_bars_7 : decode cL_bars 7 = .ok (.i2l, 1) := by decide +kernel
theorem dL_bars_8 : decode cL_bars 8 = .ok (.lastore, 1) := by decide +kernel
theorem dL_bars_9 : decode cL_bars 9 = .ok (.goto 9, 3) := by decide +kernel
theorem dL_bars_12 : decode cL_bars 12 = .ok (.astore_n 3, 1) := by decide +kernel
theorem dL_bars_13 : decode cL_bars 13 = .ok (.iconst 1, 1) := by decide +kernel
theorem dL_bars_14 : decode cL_bars 14 = .ok (.ireturn, 1) := by decide +kernel
theorem dL_bars_15 : decode cL_bars 15 = .ok (.astore_n 3, 1) := by decide +kernel
theorem dL_bars_16 : decode cL_bars 16 = .ok (.iconst 2, 1) := by decide +kernel
theorem dL_bars_17 : decode cL_bars 17 = .ok (.ireturn, 1) := by decide +kernel
theorem dL_bars_18 : decode cL_bars 18 = .ok (.iconst 0, 1) := by decide +kernel
theorem dL_bars_19 : decode cL_bars 19 = .ok (.ireturn, 1) := by decide +kernel
theorem dL_barredBy_0 : decode cL_barredBy 0 = .ok (.aload_n 2, 1) := by decide +kernel
theorem dL_barredBy_1 : decode cL_barredBy 1 = .ok (.iconst 0, 1) := by decide +kernel
theorem dL_barredBy_2 : decode cL_barredBy 2 = .ok (.aload_n 0, 1) := by decide +kernel
theorem dL_barredBy_3 : decode cL_barredBy 3 = .ok (.iload_n 1, 1) := by decide +kernel
theorem dL_barredBy_4 : decode cL_barredBy 4 = .ok (.invokevirtual 101, 3) := by decide +kernel
theorem dL_barredBy_7 : decode cL_barredBy 7 = .ok (.i2l, 1) := by decide +kernel
theorem dL_barredBy_8 : decode cL_barredBy 8 = .ok (.lastore, 1) := by decide +kernel
theorem dL_barredBy_9 : decode cL_barredBy 9 = .ok (.goto 9, 3) := by decide +kernel
theorem dL_barredBy_12 : decode cL_barredBy 12 = .ok (.astore_n 3, 1) := by decide +kernel
theorem dL_barredBy_13 : decode cL_barredBy 13 = .ok (.iconst 1, 1) := by decide +kernel
theorem dL_barredBy_14 : decode cL_barredBy 14 = .ok (.ireturn, 1) := by decide +kernel
theorem dL_barredBy_15 : decode cL_barredBy 15 = .ok (.astore_n 3, 1) := by decide +kernel
theorem dL_barredBy_16 : decode cL_barredBy 16 = .ok (.iconst 2, 1) := by decide +kernel
theorem dL_barredBy_17 : decode cL_barredBy 17 = .ok (.ireturn, 1) := by decide +kernel
theorem dL_barredBy_18 : decode cL_barredBy 18 = .ok (.iconst 0, 1) := by decide +kernel
theorem dL_barredBy_19 : decode cL_barredBy 19 = .ok (.ireturn, 1) := by decide +kernel
theorem dL_isReleased_0 : decode cL_isReleased 0 = .ok (.aload_n 2, 1) := by decide +kernel
theorem dL_isReleased_1 : decode cL_isReleased 1 = .ok (.iconst 0, 1) := by decide +kernel
theorem dL_isReleased_2 : decode cL_isReleased 2 = .ok (.aload_n 0, 1) := by decide +kernel
theorem dL_isReleased_3 : decode cL_isReleased 3 = .ok (.iload_n 1, 1) := by decide +kernel
theorem dL_isReleased_4 : decode cL_isReleased 4 = .ok (.invokevirtual 104, 3) := by decide +kernel
theorem dL_isReleased_7 : decode cL_isReleased 7 = .ok (.ifCond .eq 7, 3) := by decide +kernel
theorem dL_isReleased_10 : decode cL_isReleased 10 = .ok (.lconst 1, 1) := by decide +kernel
theorem dL_isReleased_11 : decode cL_isReleased 11 = .ok (.goto 4, 3) := by decide +kernel
theorem dL_isReleased_14 : decode cL_isReleased 14 = .ok (.lconst 0, 1) := by decide +kernel
theorem dL_isReleased_15 : decode cL_isReleased 15 = .ok (.lastore, 1) := by decide +kernel
theorem dL_isReleased_16 : decode cL_isReleased 16 = .ok (.goto 9, 3) := by decide +kernel
theorem dL_isReleased_19 : decode cL_isReleased 19 = .ok (.astore_n 3, 1) := by decide +kernel
theorem dL_isReleased_20 : decode cL_isReleased 20 = .ok (.iconst 1, 1) := by decide +kernel
theorem dL_isReleased_21 : decode cL_isReleased 21 = .ok (.ireturn, 1) := by decide +kernel
theorem dL_isReleased_22 : decode cL_isReleased 22 = .ok (.astore_n 3, 1) := by decide +kernel
theorem dL_isReleased_23 : decode cL_isReleased 23 = .ok (.iconst 2, 1) := by decide +kernel
theorem dL_isReleased_24 : decode cL_isReleased 24 = .ok (.ireturn, 1) := by decide +kernel
theorem dL_isReleased_25 : decode cL_isReleased 25 = .ok (.iconst 0, 1) := by decide +kernel
theorem dL_isReleased_26 : decode cL_isReleased 26 = .ok (.ireturn, 1) := by decide +kernel
theorem dL_road_0 : decode cL_road 0 = .ok (.aload_n 3, 1) := by decide +kernel
theorem dL_road_1 : decode cL_road 1 = .ok (.iconst 0, 1) := by decide +kernel
theorem dL_road_2 : decode cL_road 2 = .ok (.aload_n 0, 1) := by decide +kernel
theorem dL_road_3 : decode cL_road 3 = .ok (.iload_n 1, 1) := by decide +kernel
theorem dL_road_4 : decode cL_road 4 = .ok (.iload_n 2, 1) := by decide +kernel
theorem dL_road_5 : decode cL_road 5 = .ok (.invokevirtual 108, 3) := by decide +kernel
theorem dL_road_8 : decode cL_road 8 = .ok (.i2l, 1) := by decide +kernel
theorem dL_road_9 : decode cL_road 9 = .ok (.lastore, 1) := by decide +kernel
theorem dL_road_10 : decode cL_road 10 = .ok (.goto 7, 3) := by decide +kernel
theorem dL_road_13 : decode cL_road 13 = .ok (.astore 4, 2) := by decide +kernel
theorem dL_road_15 : decode cL_road 15 = .ok (.iconst 1, 1) := by decide +kernel
theorem dL_road_16 : decode cL_road 16 = .ok (.ireturn, 1) := by decide +kernel
theorem dL_road_17 : decode cL_road 17 = .ok (.iconst 0, 1) := by decide +kernel
theorem dL_road_18 : decode cL_road 18 = .ok (.ireturn, 1) := by decide +kernel
theorem dL_law_0 : decode cL_law 0 = .ok (.new 8, 3) := by decide +kernel
theorem dL_law_3 : decode cL_law 3 = .ok (.dup, 1) := by decide +kernel
theorem dL_law_4 : decode cL_law 4 = .ok (.invokespecial 111, 3) := by decide +kernel
theorem dL_law_7 : decode cL_law 7 = .ok (.astore_n 1, 1) := by decide +kernel
theorem dL_law_8 : decode cL_law 8 = .ok (.new 112, 3) := by decide +kernel
theorem dL_law_11 : decode cL_law 11 = .ok (.dup, 1) := by decide +kernel
theorem dL_law_12 : decode cL_law 12 = .ok (.invokespecial 114, 3) := by decide +kernel
theorem dL_law_15 : decode cL_law 15 = .ok (.astore_n 2, 1) := by decide +kernel
theorem dL_law_16 : decode cL_law 16 = .ok (.iconst 1, 1) := by decide +kernel
theorem dL_law_17 : decode cL_law 17 = .ok (.newarray .long, 2) := by decide +kernel
theorem dL_law_19 : decode cL_law 19 = .ok (.astore_n 3, 1) := by decide +kernel
theorem dL_law_20 : decode cL_law 20 = .ok (.iconst 0, 1) := by decide +kernel
theorem dL_law_21 : decode cL_law 21 = .ok (.istore 4, 2) := by decide +kernel
theorem dL_law_23 : decode cL_law 23 = .ok (.iload 4, 2) := by decide +kernel
theorem dL_law_25 : decode cL_law 25 = .ok (.aload_n 0, 1) := by decide +kernel
theorem dL_law_26 : decode cL_law 26 = .ok (.arraylength, 1) := by decide +kernel
theorem dL_law_27 : decode cL_law 27 = .ok (.iconst 5, 1) := by decide +kernel
theorem dL_law_28 : decode cL_law 28 = .ok (.isub, 1) := by decide +kernel
theorem dL_law_29 : decode cL_law 29 = .ok (.if_icmp .gt 1990, 3) := by decide +kernel
theorem dL_law_32 : decode cL_law 32 = .ok (.aload_n 0, 1) := by decide +kernel
theorem dL_law_33 : decode cL_law 33 = .ok (.iload 4, 2) := by decide +kernel
theorem dL_law_35 : decode cL_law 35 = .ok (.iaload, 1) := by decide +kernel
theorem dL_law_36 : decode cL_law 36 = .ok (.bipush 31, 2) := by decide +kernel
theorem dL_law_38 : decode cL_law 38 = .ok (.iand, 1) := by decide +kernel
theorem dL_law_39 : decode cL_law 39 = .ok (.tableswitch 1974 0 30 #[137, 217, 309, 377, 433, 469, 549, 605, 673, 729, 777, 845, 929, 985, 1041, 1097, 1165, 1209, 1253, 1309, 1365, 1433, 1501, 1557, 1625, 1705, 1761, 1817, 1880, 1893, 1906], 137) := by decide +kernel
theorem dL_law_176 : decode cL_law 176 = .ok (.aload_n 1, 1) := by decide +kernel
theorem dL_law_177 : decode cL_law 177 = .ok (.aload_n 0, 1) := by decide +kernel
theorem dL_law_178 : decode cL_law 178 = .ok (.iload 4, 2) := by decide +kernel
theorem dL_law_180 : decode cL_law 180 = .ok (.iconst 1, 1) := by decide +kernel
theorem dL_law_181 : decode cL_law 181 = .ok (.iadd, 1) := by decide +kernel
theorem dL_law_182 : decode cL_law 182 = .ok (.iaload, 1) := by decide +kernel
theorem dL_law_183 : decode cL_law 183 = .ok (.aload_n 0, 1) := by decide +kernel
theorem dL_law_184 : decode cL_law 184 = .ok (.iload 4, 2) := by decide +kernel
theorem dL_law_186 : decode cL_law 186 = .ok (.iconst 2, 1) := by decide +kernel
theorem dL_law_187 : decode cL_law 187 = .ok (.iadd, 1) := by decide +kernel
theorem dL_law_188 : decode cL_law 188 = .ok (.iaload, 1) := by decide +kernel
theorem dL_law_189 : decode cL_law 189 = .ok (.aload_n 0, 1) := by decide +kernel
theorem dL_law_190 : decode cL_law 190 = .ok (.iload 4, 2) := by decide +kernel
theorem dL_law_192 : decode cL_law 192 = .ok (.iconst 3, 1) := by decide +kernel
theorem dL_law_193 : decode cL_law 193 = .ok (.iadd, 1) := by decide +kernel
theorem dL_law_194 : decode cL_law 194 = .ok (.iaload, 1) := by decide +kernel
theorem dL_law_195 : decode cL_law 195 = .ok (.aload_n 3, 1) := by decide +kernel
theorem dL_law_196 : decode cL_law 196 = .ok (.invokestatic 115, 3) := by decide +kernel
theorem dL_law_199 : decode cL_law 199 = .ok (.istore 5, 2) := by decide +kernel
theorem dL_law_201 : decode cL_law 201 = .ok (.aload_n 2, 1) := by decide +kernel
theorem dL_law_202 : decode cL_law 202 = .ok (.aload_n 0, 1) := by decide +kernel
theorem dL_law_203 : decode cL_law 203 = .ok (.iload 4, 2) := by decide +kernel
theorem dL_law_205 : decode cL_law 205 = .ok (.iconst 1, 1) := by decide +kernel
theorem dL_law_206 : decode cL_law 206 = .ok (.iadd, 1) := by decide +kernel
theorem dL_law_207 : decode cL_law 207 = .ok (.iaload, 1) := by decide +kernel
theorem dL_law_208 : decode cL_law 208 = .ok (.aload_n 0, 1) := by decide +kernel
theorem dL_law_209 : decode cL_law 209 = .ok (.iload 4, 2) := by decide +kernel
theorem dL_law_211 : decode cL_law 211 = .ok (.iconst 2, 1) := by decide +kernel
theorem dL_law_212 : decode cL_law 212 = .ok (.iadd, 1) := by decide +kernel
theorem dL_law_213 : decode cL_law 213 = .ok (.iaload, 1) := by decide +kernel
theorem dL_law_214 : decode cL_law 214 = .ok (.aload_n 0, 1) := by decide +kernel
theorem dL_law_215 : decode cL_law 215 = .ok (.iload 4, 2) := by decide +kernel
theorem dL_law_217 : decode cL_law 217 = .ok (.iconst 3, 1) := by decide +kernel
theorem dL_law_218 : decode cL_law 218 = .ok (.iadd, 1) := by decide +kernel
theorem dL_law_219 : decode cL_law 219 = .ok (.iaload, 1) := by decide +kernel
theorem dL_law_220 : decode cL_law 220 = .ok (.invokevirtual 120, 3) := by decide +kernel
theorem dL_law_223 : decode cL_law 223 = .ok (.istore 6, 2) := by decide +kernel
theorem dL_law_225 : decode cL_law 225 = .ok (.aload_n 2, 1) := by decide +kernel
theorem dL_law_226 : decode cL_law 226 = .ok (.invokevirtual 121, 3) := by decide +kernel
theorem dL_law_229 : decode cL_law 229 = .ok (.iload 5, 2) := by decide +kernel
theorem dL_law_231 : decode cL_law 231 = .ok (.if_icmp .eq 5, 3) := by decide +kernel
theorem dL_law_234 : decode cL_law 234 = .ok (.iconst 0, 1) := by decide +kernel
theorem dL_law_235 : decode cL_law 235 = .ok (.ireturn, 1) := by decide +kernel
theorem dL_law_236 : decode cL_law 236 = .ok (.iload 5, 2) := by decide +kernel
theorem dL_law_238 : decode cL_law 238 = .ok (.ifCond .ne 15, 3) := by decide +kernel
theorem dL_law_241 : decode cL_law 241 = .ok (.aload_n 3, 1) := by decide +kernel
theorem dL_law_242 : decode cL_law 242 = .ok (.iconst 0, 1) := by decide +kernel
theorem dL_law_243 : decode cL_law 243 = .ok (.laload, 1) := by decide +kernel
theorem dL_law_244 : decode cL_law 244 = .ok (.iload 6, 2) := by decide +kernel
theorem dL_law_246 : decode cL_law 246 = .ok (.i2l, 1) := by decide +kernel
theorem dL_law_247 : decode cL_law 247 = .ok (.lcmp, 1) := by decide +kernel
theorem dL_law_248 : decode cL_law 248 = .ok (.ifCond .eq 5, 3) := by decide +kernel
theorem dL_law_251 : decode cL_law 251 = .ok (.iconst 0, 1) := by decide +kernel
theorem dL_law_252 : decode cL_law 252 = .ok (.ireturn, 1) := by decide +kernel
theorem dL_law_253 : decode cL_law 253 = .ok (.goto 1760, 3) := by decide +kernel
theorem dL_law_256 : decode cL_law 256 = .ok (.aload_n 1, 1) := by decide +kernel
theorem dL_law_257 : decode cL_law 257 = .ok (.aload_n 0, 1) := by decide +kernel
theorem dL_law_258 : decode cL_law 258 = .ok (.iload 4, 2) := by decide +kernel
theorem dL_law_260 : decode cL_law 260 = .ok (.iconst 1, 1) := by decide +kernel
theorem dL_law_261 : decode cL_law 261 = .ok (.iadd, 1) := by decide +kernel
theorem dL_law_262 : decode cL_law 262 = .ok (.iaload, 1) := by decide +kernel
theorem dL_law_263 : decode cL_law 263 = .ok (.aload_n 0, 1) := by decide +kernel
theorem dL_law_264 : decode cL_law 264 = .ok (.iload 4, 2) := by decide +kernel
theorem dL_law_266 : decode cL_law 266 = .ok (.iconst 2, 1) := by decide +kernel
theorem dL_law_267 : decode cL_law 267 = .ok (.iadd, 1) := by decide +kernel
theorem dL_law_268 : decode cL_law 268 = .ok (.iaload, 1) := by decide +kernel
theorem dL_law_269 : decode cL_law 269 = .ok (.aload_n 0, 1) := by decide +kernel
theorem dL_law_270 : decode cL_law 270 = .ok (.iload 4, 2) := by decide +kernel
theorem dL_law_272 : decode cL_law 272 = .ok (.iconst 3, 1) := by decide +kernel
theorem dL_law_273 : decode cL_law 273 = .ok (.iadd, 1) := by decide +kernel
theorem dL_law_274 : decode cL_law 274 = .ok (.iaload, 1) := by decide +kernel
theorem dL_law_275 : decode cL_law 275 = .ok (.aload_n 0, 1) := by decide +kernel
theorem dL_law_276 : decode cL_law 276 = .ok (.iload 4, 2) := by decide +kernel
theorem dL_law_278 : decode cL_law 278 = .ok (.iconst 4, 1) := by decide +kernel
theorem dL_law_279 : decode cL_law 279 = .ok (.iadd, 1) := by decide +kernel
theorem dL_law_280 : decode cL_law 280 = .ok (.iaload, 1) := by decide +kernel
theorem dL_law_281 : decode cL_law 281 = .ok (.aload_n 3, 1) := by decide +kernel
theorem dL_law_282 : decode cL_law 282 = .ok (.invokestatic 124, 3) := by decide +kernel
theorem dL_law_285 : decode cL_law 285 = .ok (.istore 5, 2) := by decide +kernel
theorem dL_law_287 : decode cL_law 287 = .ok (.aload_n 2, 1) := by decide +kernel
theorem dL_law_288 : decode cL_law 288 = .ok (.aload_n 0, 1) := by decide +kernel
theorem dL_law_289 : decode cL_law 289 = .ok (.iload 4, 2) := by decide +kernel
theorem dL_law_291 : decode cL_law 291 = .ok (.iconst 1, 1) := by decide +kernel
theorem dL_law_292 : decode cL_law 292 = .ok (.iadd, 1) := by decide +kernel
theorem dL_law_293 : decode cL_law 293 = .ok (.iaload, 1) := by decide +kernel
theorem dL_law_294 : decode cL_law 294 = .ok (.aload_n 0, 1) := by decide +kernel
theorem dL_law_295 : decode cL_law 295 = .ok (.iload 4, 2) := by decide +kernel
theorem dL_law_297 : decode cL_law 297 = .ok (.iconst 2, 1) := by decide +kernel
theorem dL_law_298 : decode cL_law 298 = .ok (.iadd, 1) := by decide +kernel
theorem dL_law_299 : decode cL_law 299 = .ok (.iaload, 1) := by decide +kernel
theorem dL_law_300 : decode cL_law 300 = .ok (.aload_n 0, 1) := by decide +kernel
theorem dL_law_301 : decode cL_law 301 = .ok (.iload 4, 2) := by decide +kernel
theorem dL_law_303 : decode cL_law 303 = .ok (.iconst 3, 1) := by decide +kernel
theorem dL_law_304 : decode cL_law 304 = .ok (.iadd, 1) := by decide +kernel
theorem dL_law_305 : decode cL_law 305 = .ok (.iaload, 1) := by decide +kernel
theorem dL_law_306 : decode cL_law 306 = .ok (.aload_n 0, 1) := by decide +kernel
theorem dL_law_307 : decode cL_law 307 = .ok (.iload 4, 2) := by decide +kernel
theorem dL_law_309 : decode cL_law 309 = .ok (.iconst 4, 1) := by decide +kernel
theorem dL_law_310 : decode cL_law 310 = .ok (.iadd, 1) := by decide +kernel
theorem dL_law_311 : decode cL_law 311 = .ok (.iaload, 1) := by decide +kernel
theorem dL_law_312 : decode cL_law 312 = .ok (.invokevirtual 127, 3) := by decide +kernel
theorem dL_law_315 : decode cL_law 315 = .ok (.istore 6, 2) := by decide +kernel
theorem dL_law_317 : decode cL_law 317 = .ok (.aload_n 2, 1) := by decide +kernel
theorem dL_law_318 : decode cL_law 318 = .ok (.invokevirtual 121, 3) := by decide +kernel
theorem dL_law_321 : decode cL_law 321 = .ok (.iload 5, 2) := by decide +kernel
theorem dL_law_323 : decode cL_law 323 = .ok (.if_icmp .eq 5, 3) := by decide +kernel
theorem dL_law_326 : decode cL_law 326 = .ok (.iconst 0, 1) := by decide +kernel
theorem dL_law_327 : decode cL_law 327 = .ok (.ireturn, 1) := by decide +kernel
theorem dL_law_328 : decode cL_law 328 = .ok (.iload 5, 2) := by decide +kernel
theorem dL_law_330 : decode cL_law 330 = .ok (.ifCond .ne 15, 3) := by decide +kernel
theorem dL_law_333 : decode cL_law 333 = .ok (.aload_n 3, 1) := by decide +kernel
theorem dL_law_334 : decode cL_law 334 = .ok (.iconst 0, 1) := by decide +kernel
theorem dL_law_335 : decode cL_law 335 = .ok (.laload, 1) := by decide +kernel
theorem dL_law_336 : decode cL_law 336 = .ok (.iload 6, 2) := by decide +kernel
theorem dL_law_338 : decode cL_law 338 = .ok (.i2l, 1) := by decide +kernel
theorem dL_law_339 : decode cL_law 339 = .ok (.lcmp, 1) := by decide +kernel
theorem dL_law_340 : decode cL_law 340 = .ok (.ifCond .eq 5, 3) := by decide +kernel
theorem dL_law_343 : decode cL_law 343 = .ok (.iconst 0, 1) := by decide +kernel
theorem dL_law_344 : decode cL_law 344 = .ok (.ireturn, 1) := by decide +kernel
theorem dL_law_345 : decode cL_law 345 = .ok (.goto 1668, 3) := by decide +kernel
theorem dL_law_348 : decode cL_law 348 = .ok (.aload_n 1, 1) := by decide +kernel
theorem dL_law_349 : decode cL_law 349 = .ok (.aload_n 0, 1) := by decide +kernel
theorem dL_law_350 : decode cL_law 350 = .ok (.iload 4, 2) := by decide +kernel
theorem dL_law_352 : decode cL_law 352 = .ok (.iconst 1, 1) := by decide +kernel
theorem dL_law_353 : decode cL_law 353 = .ok (.iadd, 1) := by decide +kernel
theorem dL_law_354 : decode cL_law 354 = .ok (.iaload, 1) := by decide +kernel
theorem dL_law_355 : decode cL_law 355 = .ok (.aload_n 0, 1) := by decide +kernel
theorem dL_law_356 : decode cL_law 356 = .ok (.iload 4, 2) := by decide +kernel
theorem dL_law_358 : decode cL_law 358 = .ok (.iconst 2, 1) := by decide +kernel
theorem dL_law_359 : decode cL_law 359 = .ok (.iadd, 1) := by decide +kernel
theorem dL_law_360 : decode cL_law 360 = .ok (.iaload, 1) := by decide +kernel
theorem dL_law_361 : decode cL_law 361 = .ok (.aload_n 3, 1) := by decide +kernel
theorem dL_law_362 : decode cL_law 362 = .ok (.invokestatic 128, 3) := by decide +kernel
theorem dL_law_365 : decode cL_law 365 = .ok (.istore 5, 2) := by decide +kernel
theorem dL_law_367 : decode cL_law 367 = .ok (.aload_n 2, 1) := by decide +kernel
theorem dL_law_368 : decode cL_law 368 = .ok (.aload_n 0, 1) := by decide +kernel
theorem dL_law_369 : decode cL_law 369 = .ok (.iload 4, 2) := by decide +kernel
theorem dL_law_371 : decode cL_law 371 = .ok (.iconst 1, 1) := by decide +kernel
theorem dL_law_372 : decode cL_law 372 = .ok (.iadd, 1) := by decide +kernel
theorem dL_law_373 : decode cL_law 373 = .ok (.iaload, 1) := by decide +kernel
theorem dL_law_374 : decode cL_law 374 = .ok (.aload_n 0, 1) := by decide +kernel
theorem dL_law_375 : decode cL_law 375 = .ok (.iload 4, 2) := by decide +kernel
theorem dL_law_377 : decode cL_law 377 = .ok (.iconst 2, 1) := by decide +kernel
theorem dL_law_378 : decode cL_law 378 = .ok (.iadd, 1) := by decide +kernel
theorem dL_law_379 : decode cL_law 379 = .ok (.iaload, 1) := by decide +kernel
theorem dL_law_380 : decode cL_law 380 = .ok (.invokevirtual 131, 3) := by decide +kernel
theorem dL_law_383 : decode cL_law 383 = .ok (.istore 6, 2) := by decide +kernel
theorem dL_law_385 : decode cL_law 385 = .ok (.aload_n 2, 1) := by decide +kernel
theorem dL_law_386 : decode cL_law 386 = .ok (.invokevirtual 121, 3) := by decide +kernel
theorem dL_law_389 : decode cL_law 389 = .ok (.iload 5, 2) := by decide +kernel
theorem dL_law_391 : decode cL_law 391 = .ok (.if_icmp .eq 5, 3) := by decide +kernel
theorem dL_law_394 : decode cL_law 394 = .ok (.iconst 0, 1) := by decide +kernel
theorem dL_law_395 : decode cL_law 395 = .ok (.ireturn, 1) := by decide +kernel
theorem dL_law_396 : decode cL_law 396 = .ok (.iload 5, 2) := by decide +kernel
theorem dL_law_398 : decode cL_law 398 = .ok (.ifCond .ne 15, 3) := by decide +kernel
theorem dL_law_401 : decode cL_law 401 = .ok (.aload_n 3, 1) := by decide +kernel
theorem dL_law_402 : decode cL_law 402 = .ok (.iconst 0, 1) := by decide +kernel
theorem dL_law_403 : decode cL_law 403 = .ok (.laload, 1) := by decide +kernel
theorem dL_law_404 : decode cL_law 404 = .ok (.iload 6, 2) := by decide +kernel
theorem dL_law_406 : decode cL_law 406 = .ok (.i2l, 1) := by decide +kernel
theorem dL_law_407 : decode cL_law 407 = .ok (.lcmp, 1) := by decide +kernel
theorem dL_law_408 : decode cL_law 408 = .ok (.ifCond .eq 5, 3) := by decide +kernel
theorem dL_law_411 : decode cL_law 411 = .ok (.iconst 0, 1) := by decide +kernel
theorem dL_law_412 : decode cL_law 412 = .ok (.ireturn, 1) := by decide +kernel
theorem dL_law_413 : decode cL_law 413 = .ok (.goto 1600, 3) := by decide +kernel
theorem dL_law_416 : decode cL_law 416 = .ok (.aload_n 1, 1) := by decide +kernel
theorem dL_law_417 : decode cL_law 417 = .ok (.aload_n 0, 1) := by decide +kernel
theorem dL_law_418 : decode cL_law 418 = .ok (.iload 4, 2) := by decide +kernel
theorem dL_law_420 : decode cL_law 420 = .ok (.iconst 1, 1) := by decide +kernel
theorem dL_law_421 : decode cL_law 421 = .ok (.iadd, 1) := by decide +kernel
theorem dL_law_422 : decode cL_law 422 = .ok (.iaload, 1) := by decide +kernel
theorem dL_law_423 : decode cL_law 423 = .ok (.aload_n 3, 1) := by decide +kernel
theorem dL_law_424 : decode cL_law 424 = .ok (.invokestatic 132, 3) := by decide +kernel
theorem dL_law_427 : decode cL_law 427 = .ok (.istore 5, 2) := by decide +kernel
theorem dL_law_429 : decode cL_law 429 = .ok (.aload_n 2, 1) := by decide +kernel
theorem dL_law_430 : decode cL_law 430 = .ok (.aload_n 0, 1) := by decide +kernel
theorem dL_law_431 : decode cL_law 431 = .ok (.iload 4, 2) := by decide +kernel
theorem dL_law_433 : decode cL_law 433 = .ok (.iconst 1, 1) := by decide +kernel
theorem dL_law_434 : decode cL_law 434 = .ok (.iadd, 1) := by decide +kernel
theorem dL_law_435 : decode cL_law 435 = .ok (.iaload, 1) := by decide +kernel
theorem dL_law_436 : decode cL_law 436 = .ok (.invokevirtual 135, 3) := by decide +kernel
theorem dL_law_439 : decode cL_law 439 = .ok (.istore 6, 2) := by decide +kernel
theorem dL_law_441 : decode cL_law 441 = .ok (.aload_n 2, 1) := by decide +kernel
theorem dL_law_442 : decode cL_law 442 = .ok (.invokevirtual 121, 3) := by decide +kernel
theorem dL_law_445 : decode cL_law 445 = .ok (.iload 5, 2) := by decide +kernel
theorem dL_law_447 : decode cL_law 447 = .ok (.if_icmp .eq 5, 3) := by decide +kernel
theorem dL_law_450 : decode cL_law 450 = .ok (.iconst 0, 1) := by decide +kernel
theorem dL_law_451 : decode cL_law 451 = .ok (.ireturn, 1) := by decide +kernel
theorem dL_law_452 : decode cL_law 452 = .ok (.iload 5, 2) := by decide +kernel
theorem dL_law_454 : decode cL_law 454 = .ok (.ifCond .ne 15, 3) := by decide +kernel
theorem dL_law_457 : decode cL_law 457 = .ok (.aload_n 3, 1) := by decide +kernel
theorem dL_law_458 : decode cL_law 458 = .ok (.iconst 0, 1) := by decide +kernel
theorem dL_law_459 : decode cL_law 459 = .ok (.laload, 1) := by decide +kernel
theorem dL_law_460 : decode cL_law 460 = .ok (.iload 6, 2) := by decide +kernel
theorem dL_law_462 : decode cL_law 462 = .ok (.i2l, 1) := by decide +kernel
theorem dL_law_463 : decode cL_law 463 = .ok (.lcmp, 1) := by decide +kernel
theorem dL_law_464 : decode cL_law 464 = .ok (.ifCond .eq 5, 3) := by decide +kernel
theorem dL_law_467 : decode cL_law 467 = .ok (.iconst 0, 1) := by decide +kernel
theorem dL_law_468 : decode cL_law 468 = .ok (.ireturn, 1) := by decide +kernel
theorem dL_law_469 : decode cL_law 469 = .ok (.goto 1544, 3) := by decide +kernel
theorem dL_law_472 : decode cL_law 472 = .ok (.aload_n 1, 1) := by decide +kernel
theorem dL_law_473 : decode cL_law 473 = .ok (.aload_n 0, 1) := by decide +kernel
theorem dL_law_474 : decode cL_law 474 = .ok (.iload 4, 2) := by decide +kernel
theorem dL_law_476 : decode cL_law 476 = .ok (.iconst 1, 1) := by decide +kernel
theorem dL_law_477 : decode cL_law 477 = .ok (.iadd, 1) := by decide +kernel
theorem dL_law_478 : decode cL_law 478 = .ok (.iaload, 1) := by decide +kernel
theorem dL_law_479 : decode cL_law 479 = .ok (.invokestatic 136, 3) := by decide +kernel
theorem dL_law_482 : decode cL_law 482 = .ok (.istore 5, 2) := by decide +kernel
theorem dL_law_484 : decode cL_law 484 = .ok (.aload_n 2, 1) := by decide +kernel
theorem dL_law_485 : decode cL_law 485 = .ok (.aload_n 0, 1) := by decide +kernel
theorem dL_law_486 : decode cL_law 486 = .ok (.iload 4, 2) := by decide +kernel
theorem dL_law_488 : decode cL_law 488 = .ok (.iconst 1, 1) := by decide +kernel
theorem dL_law_489 : decode cL_law 489 = .ok (.iadd, 1) := by decide +kernel
theorem dL_law_490 : decode cL_law 490 = .ok (.iaload, 1) := by decide +kernel
theorem dL_law_491 : decode cL_law 491 = .ok (.invokevirtual 139, 3) := by decide +kernel
theorem dL_law_494 : decode cL_law 494 = .ok (.aload_n 2, 1) := by decide +kernel
theorem dL_law_495 : decode cL_law 495 = .ok (.invokevirtual 121, 3) := by decide +kernel
theorem dL_law_498 : decode cL_law 498 = .ok (.iload 5, 2) := by decide +kernel
theorem dL_law_500 : decode cL_law 500 = .ok (.if_icmp .eq 5, 3) := by decide +kernel
theorem dL_law_503 : decode cL_law 503 = .ok (.iconst 0, 1) := by decide +kernel
theorem dL_law_504 : decode cL_law 504 = .ok (.ireturn, 1) := by decide +kernel
theorem dL_law_505 : decode cL_law 505 = .ok (.goto 1508, 3) := by decide +kernel
theorem dL_law_508 : decode cL_law 508 = .ok (.aload_n 1, 1) := by decide +kernel
theorem dL_law_509 : decode cL_law 509 = .ok (.aload_n 0, 1) := by decide +kernel
theorem dL_law_510 : decode cL_law 510 = .ok (.iload 4, 2) := by decide +kernel
theorem dL_law_512 : decode cL_law 512 = .ok (.iconst 1, 1) := by decide +kernel
theorem dL_law_513 : decode cL_law 513 = .ok (.iadd, 1) := by decide +kernel
theorem dL_law_514 : decode cL_law 514 = .ok (.iaload, 1) := by decide +kernel
theorem dL_law_515 : decode cL_law 515 = .ok (.aload_n 0, 1) := by decide +kernel
theorem dL_law_516 : decode cL_law 516 = .ok (.iload 4, 2) := by decide +kernel
theorem dL_law_518 : decode cL_law 518 = .ok (.iconst 2, 1) := by decide +kernel
theorem dL_law_519 : decode cL_law 519 = .ok (.iadd, 1) := by decide +kernel
theorem dL_law_520 : decode cL_law 520 = .ok (.iaload, 1) := by decide +kernel
theorem dL_law_521 : decode cL_law 521 = .ok (.aload_n 0, 1) := by decide +kernel
theorem dL_law_522 : decode cL_law 522 = .ok (.iload 4, 2) := by decide +kernel
theorem dL_law_524 : decode cL_law 524 = .ok (.iconst 3, 1) := by decide +kernel
theorem dL_law_525 : decode cL_law 525 = .ok (.iadd, 1) := by decide +kernel
theorem dL_law_526 : decode cL_law 526 = .ok (.iaload, 1) := by decide +kernel
theorem dL_law_527 : decode cL_law 527 = .ok (.aload_n 3, 1) := by decide +kernel
theorem dL_law_528 : decode cL_law 528 = .ok (.invokestatic 140, 3) := by decide +kernel
theorem dL_law_531 : decode cL_law 531 = .ok (.istore 5, 2) := by decide +kernel
theorem dL_law_533 : decode cL_law 533 = .ok (.aload_n 2, 1) := by decide +kernel
theorem dL_law_534 : decode cL_law 534 = .ok (.aload_n 0, 1) := by decide +kernel
theorem dL_law_535 : decode cL_law 535 = .ok (.iload 4, 2) := by decide +kernel
theorem dL_law_537 : decode cL_law 537 = .ok (.iconst 1, 1) := by decide +kernel
theorem dL_law_538 : decode cL_law 538 = .ok (.iadd, 1) := by decide +kernel
theorem dL_law_539 : decode cL_law 539 = .ok (.iaload, 1) := by decide +kernel
theorem dL_law_540 : decode cL_law 540 = .ok (.aload_n 0, 1) := by decide +kernel
theorem dL_law_541 : decode cL_law 541 = .ok (.iload 4, 2) := by decide +kernel
theorem dL_law_543 : decode cL_law 543 = .ok (.iconst 2, 1) := by decide +kernel
theorem dL_law_544 : decode cL_law 544 = .ok (.iadd, 1) := by decide +kernel
theorem dL_law_545 : decode cL_law 545 = .ok (.iaload, 1) := by decide +kernel
theorem dL_law_546 : decode cL_law 546 = .ok (.aload_n 0, 1) := by decide +kernel
theorem dL_law_547 : decode cL_law 547 = .ok (.iload 4, 2) := by decide +kernel
theorem dL_law_549 : decode cL_law 549 = .ok (.iconst 3, 1) := by decide +kernel
theorem dL_law_550 : decode cL_law 550 = .ok (.iadd, 1) := by decide +kernel
theorem dL_law_551 : decode cL_law 551 = .ok (.iaload, 1) := by decide +kernel
theorem dL_law_552 : decode cL_law 552 = .ok (.invokevirtual 142, 3) := by decide +kernel
theorem dL_law_555 : decode cL_law 555 = .ok (.istore 6, 2) := by decide +kernel
theorem dL_law_557 : decode cL_law 557 = .ok (.aload_n 2, 1) := by decide +kernel
theorem dL_law_558 : decode cL_law 558 = .ok (.invokevirtual 121, 3) := by decide +kernel
theorem dL_law_561 : decode cL_law 561 = .ok (.iload 5, 2) := by decide +kernel
theorem dL_law_563 : decode cL_law 563 = .ok (.if_icmp .eq 5, 3) := by decide +kernel
theorem dL_law_566 : decode cL_law 566 = .ok (.iconst 0, 1) := by decide +kernel
theorem dL_law_567 : decode cL_law 567 = .ok (.ireturn, 1) := by decide +kernel
theorem dL_law_568 : decode cL_law 568 = .ok (.iload 5, 2) := by decide +kernel
theorem dL_law_570 : decode cL_law 570 = .ok (.ifCond .ne 15, 3) := by decide +kernel
theorem dL_law_573 : decode cL_law 573 = .ok (.aload_n 3, 1) := by decide +kernel
theorem dL_law_574 : decode cL_law 574 = .ok (.iconst 0, 1) := by decide +kernel
theorem dL_law_575 : decode cL_law 575 = .ok (.laload, 1) := by decide +kernel
theorem dL_law_576 : decode cL_law 576 = .ok (.iload 6, 2) := by decide +kernel
theorem dL_law_578 : decode cL_law 578 = .ok (.i2l, 1) := by decide +kernel
theorem dL_law_579 : decode cL_law 579 = .ok (.lcmp, 1) := by decide +kernel
theorem dL_law_580 : decode cL_law 580 = .ok (.ifCond .eq 5, 3) := by decide +kernel
theorem dL_law_583 : decode cL_law 583 = .ok (.iconst 0, 1) := by decide +kernel
theorem dL_law_584 : decode cL_law 584 = .ok (.ireturn, 1) := by decide +kernel
theorem dL_law_585 : decode cL_law 585 = .ok (.goto 1428, 3) := by decide +kernel
theorem dL_law_588 : decode cL_law 588 = .ok (.aload_n 1, 1) := by decide +kernel
theorem dL_law_589 : decode cL_law 589 = .ok (.aload_n 0, 1) := by decide +kernel
theorem dL_law_590 : decode cL_law 590 = .ok (.iload 4, 2) := by decide +kernel
theorem dL_law_592 : decode cL_law 592 = .ok (.iconst 1, 1) := by decide +kernel
theorem dL_law_593 : decode cL_law 593 = .ok (.iadd, 1) := by decide +kernel
theorem dL_law_594 : decode cL_law 594 = .ok (.iaload, 1) := by decide +kernel
theorem dL_law_595 : decode cL_law 595 = .ok (.aload_n 3, 1) := by decide +kernel
theorem dL_law_596 : decode cL_law 596 = .ok (.invokestatic 143, 3) := by decide +kernel
theorem dL_law_599 : decode cL_law 599 = .ok (.istore 5, 2) := by decide +kernel
theorem dL_law_601 : decode cL_law 601 = .ok (.aload_n 2, 1) := by decide +kernel
theorem dL_law_602 : decode cL_law 602 = .ok (.aload_n 0, 1) := by decide +kernel
theorem dL_law_603 : decode cL_law 603 = .ok (.iload 4, 2) := by decide +kernel
theorem dL_law_605 : decode cL_law 605 = .ok (.iconst 1, 1) := by decide +kernel
theorem dL_law_606 : decode cL_law 606 = .ok (.iadd, 1) := by decide +kernel
theorem dL_law_607 : decode cL_law 607 = .ok (.iaload, 1) := by decide +kernel
theorem dL_law_608 : decode cL_law 608 = .ok (.invokevirtual 145, 3) := by decide +kernel
theorem dL_law_611 : decode cL_law 611 = .ok (.istore 6, 2) := by decide +kernel
theorem dL_law_613 : decode cL_law 613 = .ok (.aload_n 2, 1) := by decide +kernel
theorem dL_law_614 : decode cL_law 614 = .ok (.invokevirtual 121, 3) := by decide +kernel
theorem dL_law_617 : decode cL_law 617 = .ok (.iload 5, 2) := by decide +kernel
theorem dL_law_619 : decode cL_law 619 = .ok (.if_icmp .eq 5, 3) := by decide +kernel
theorem dL_law_622 : decode cL_law 622 = .ok (.iconst 0, 1) := by decide +kernel
theorem dL_law_623 : decode cL_law 623 = .ok (.ireturn, 1) := by decide +kernel
theorem dL_law_624 : decode cL_law 624 = .ok (.iload 5, 2) := by decide +kernel
theorem dL_law_626 : decode cL_law 626 = .ok (.ifCond .ne 15, 3) := by decide +kernel
theorem dL_law_629 : decode cL_law 629 = .ok (.aload_n 3, 1) := by decide +kernel
theorem dL_law_630 : decode cL_law 630 = .ok (.iconst 0, 1) := by decide +kernel
theorem dL_law_631 : decode cL_law 631 = .ok (.laload, 1) := by decide +kernel
theorem dL_law_632 : decode cL_law 632 = .ok (.iload 6, 2) := by decide +kernel
theorem dL_law_634 : decode cL_law 634 = .ok (.i2l, 1) := by decide +kernel
theorem dL_law_635 : decode cL_law 635 = .ok (.lcmp, 1) := by decide +kernel
theorem dL_law_636 : decode cL_law 636 = .ok (.ifCond .eq 5, 3) := by decide +kernel
theorem dL_law_639 : decode cL_law 639 = .ok (.iconst 0, 1) := by decide +kernel
theorem dL_law_640 : decode cL_law 640 = .ok (.ireturn, 1) := by decide +kernel
theorem dL_law_641 : decode cL_law 641 = .ok (.goto 1372, 3) := by decide +kernel
theorem dL_law_644 : decode cL_law 644 = .ok (.aload_n 1, 1) := by decide +kernel
theorem dL_law_645 : decode cL_law 645 = .ok (.aload_n 0, 1) := by decide +kernel
theorem dL_law_646 : decode cL_law 646 = .ok (.iload 4, 2) := by decide +kernel
theorem dL_law_648 : decode cL_law 648 = .ok (.iconst 1, 1) := by decide +kernel
theorem dL_law_649 : decode cL_law 649 = .ok (.iadd, 1) := by decide +kernel
theorem dL_law_650 : decode cL_law 650 = .ok (.iaload, 1) := by decide +kernel
theorem dL_law_651 : decode cL_law 651 = .ok (.aload_n 0, 1) := by decide +kernel
theorem dL_law_652 : decode cL_law 652 = .ok (.iload 4, 2) := by decide +kernel
theorem dL_law_654 : decode cL_law 654 = .ok (.iconst 2, 1) := by decide +kernel
theorem dL_law_655 : decode cL_law 655 = .ok (.iadd, 1) := by decide +kernel
theorem dL_law_656 : decode cL_law 656 = .ok (.iaload, 1) := by decide +kernel
theorem dL_law_657 : decode cL_law 657 = .ok (.aload_n 3, 1) := by decide +kernel
theorem dL_law_658 : decode cL_law 658 = .ok (.invokestatic 146, 3) := by decide +kernel
theorem dL_law_661 : decode cL_law 661 = .ok (.istore 5, 2) := by decide +kernel
theorem dL_law_663 : decode cL_law 663 = .ok (.aload_n 2, 1) := by decide +kernel
theorem dL_law_664 : decode cL_law 664 = .ok (.aload_n 0, 1) := by decide +kernel
theorem dL_law_665 : decode cL_law 665 = .ok (.iload 4, 2) := by decide +kernel
theorem dL_law_667 : decode cL_law 667 = .ok (.iconst 1, 1) := by decide +kernel
theorem dL_law_668 : decode cL_law 668 = .ok (.iadd, 1) := by decide +kernel
theorem dL_law_669 : decode cL_law 669 = .ok (.iaload, 1) := by decide +kernel
theorem dL_law_670 : decode cL_law 670 = .ok (.aload_n 0, 1) := by decide +kernel
theorem dL_law_671 : decode cL_law 671 = .ok (.iload 4, 2) := by decide +kernel
theorem dL_law_673 : decode cL_law 673 = .ok (.iconst 2, 1) := by decide +kernel
theorem dL_law_674 : decode cL_law 674 = .ok (.iadd, 1) := by decide +kernel
theorem dL_law_675 : decode cL_law 675 = .ok (.iaload, 1) := by decide +kernel
theorem dL_law_676 : decode cL_law 676 = .ok (.invokevirtual 148, 3) := by decide +kernel
theorem dL_law_679 : decode cL_law 679 = .ok (.istore 6, 2) := by decide +kernel
theorem dL_law_681 : decode cL_law 681 = .ok (.aload_n 2, 1) := by decide +kernel
theorem dL_law_682 : decode cL_law 682 = .ok (.invokevirtual 121, 3) := by decide +kernel
theorem dL_law_685 : decode cL_law 685 = .ok (.iload 5, 2) := by decide +kernel
theorem dL_law_687 : decode cL_law 687 = .ok (.if_icmp .eq 5, 3) := by decide +kernel
theorem dL_law_690 : decode cL_law 690 = .ok (.iconst 0, 1) := by decide +kernel
theorem dL_law_691 : decode cL_law 691 = .ok (.ireturn, 1) := by decide +kernel
theorem dL_law_692 : decode cL_law 692 = .ok (.iload 5, 2) := by decide +kernel
theorem dL_law_694 : decode cL_law 694 = .ok (.ifCond .ne 15, 3) := by decide +kernel
theorem dL_law_697 : decode cL_law 697 = .ok (.aload_n 3, 1) := by decide +kernel
theorem dL_law_698 : decode cL_law 698 = .ok (.iconst 0, 1) := by decide +kernel
theorem dL_law_699 : decode cL_law 699 = .ok (.laload, 1) := by decide +kernel
theorem dL_law_700 : decode cL_law 700 = .ok (.iload 6, 2) := by decide +kernel
theorem dL_law_702 : decode cL_law 702 = .ok (.i2l, 1) := by decide +kernel
theorem dL_law_703 : decode cL_law 703 = .ok (.lcmp, 1) := by decide +kernel
theorem dL_law_704 : decode cL_law 704 = .ok (.ifCond .eq 5, 3) := by decide +kernel
theorem dL_law_707 : decode cL_law 707 = .ok (.iconst 0, 1) := by decide +kernel
theorem dL_law_708 : decode cL_law 708 = .ok (.ireturn, 1) := by decide +kernel
theorem dL_law_709 : decode cL_law 709 = .ok (.goto 1304, 3) := by decide +kernel
theorem dL_law_712 : decode cL_law 712 = .ok (.aload_n 1, 1) := by decide +kernel
theorem dL_law_713 : decode cL_law 713 = .ok (.aload_n 0, 1) := by decide +kernel
theorem dL_law_714 : decode cL_law 714 = .ok (.iload 4, 2) := by decide +kernel
theorem dL_law_716 : decode cL_law 716 = .ok (.iconst 1, 1) := by decide +kernel
theorem dL_law_717 : decode cL_law 717 = .ok (.iadd, 1) := by decide +kernel
theorem dL_law_718 : decode cL_law 718 = .ok (.iaload, 1) := by decide +kernel
theorem dL_law_719 : decode cL_law 719 = .ok (.aload_n 3, 1) := by decide +kernel
theorem dL_law_720 : decode cL_law 720 = .ok (.invokestatic 149, 3) := by decide +kernel
theorem dL_law_723 : decode cL_law 723 = .ok (.istore 5, 2) := by decide +kernel
theorem dL_law_725 : decode cL_law 725 = .ok (.aload_n 2, 1) := by decide +kernel
theorem dL_law_726 : decode cL_law 726 = .ok (.aload_n 0, 1) := by decide +kernel
theorem dL_law_727 : decode cL_law 727 = .ok (.iload 4, 2) := by decide +kernel
theorem dL_law_729 : decode cL_law 729 = .ok (.iconst 1, 1) := by decide +kernel
theorem dL_law_730 : decode cL_law 730 = .ok (.iadd, 1) := by decide +kernel
theorem dL_law_731 : decode cL_law 731 = .ok (.iaload, 1) := by decide +kernel
theorem dL_law_732 : decode cL_law 732 = .ok (.invokevirtual 151, 3) := by decide +kernel
theorem dL_law_735 : decode cL_law 735 = .ok (.istore 6, 2) := by decide +kernel
theorem dL_law_737 : decode cL_law 737 = .ok (.aload_n 2, 1) := by decide +kernel
theorem dL_law_738 : decode cL_law 738 = .ok (.invokevirtual 121, 3) := by decide +kernel
theorem dL_law_741 : decode cL_law 741 = .ok (.iload 5, 2) := by decide +kernel
theorem dL_law_743 : decode cL_law 743 = .ok (.if_icmp .eq 5, 3) := by decide +kernel
theorem dL_law_746 : decode cL_law 746 = .ok (.iconst 0, 1) := by decide +kernel
theorem dL_law_747 : decode cL_law 747 = .ok (.ireturn, 1) := by decide +kernel
theorem dL_law_748 : decode cL_law 748 = .ok (.iload 5, 2) := by decide +kernel
theorem dL_law_750 : decode cL_law 750 = .ok (.ifCond .ne 15, 3) := by decide +kernel
theorem dL_law_753 : decode cL_law 753 = .ok (.aload_n 3, 1) := by decide +kernel
theorem dL_law_754 : decode cL_law 754 = .ok (.iconst 0, 1) := by decide +kernel
theorem dL_law_755 : decode cL_law 755 = .ok (.laload, 1) := by decide +kernel
theorem dL_law_756 : decode cL_law 756 = .ok (.iload 6, 2) := by decide +kernel
theorem dL_law_758 : decode cL_law 758 = .ok (.i2l, 1) := by decide +kernel
theorem dL_law_759 : decode cL_law 759 = .ok (.lcmp, 1) := by decide +kernel
theorem dL_law_760 : decode cL_law 760 = .ok (.ifCond .eq 5, 3) := by decide +kernel
theorem dL_law_763 : decode cL_law 763 = .ok (.iconst 0, 1) := by decide +kernel
theorem dL_law_764 : decode cL_law 764 = .ok (.ireturn, 1) := by decide +kernel
theorem dL_law_765 : decode cL_law 765 = .ok (.goto 1248, 3) := by decide +kernel
theorem dL_law_768 : decode cL_law 768 = .ok (.aload_n 1, 1) := by decide +kernel
theorem dL_law_769 : decode cL_law 769 = .ok (.aload_n 0, 1) := by decide +kernel
theorem dL_law_770 : decode cL_law 770 = .ok (.iload 4, 2) := by decide +kernel
theorem dL_law_772 : decode cL_law 772 = .ok (.iconst 1, 1) := by decide +kernel
theorem dL_law_773 : decode cL_law 773 = .ok (.iadd, 1) := by decide +kernel
theorem dL_law_774 : decode cL_law 774 = .ok (.iaload, 1) := by decide +kernel
theorem dL_law_775 : decode cL_law 775 = .ok (.aload_n 0, 1) := by decide +kernel
theorem dL_law_776 : decode cL_law 776 = .ok (.iload 4, 2) := by decide +kernel
theorem dL_law_778 : decode cL_law 778 = .ok (.iconst 2, 1) := by decide +kernel
theorem dL_law_779 : decode cL_law 779 = .ok (.iadd, 1) := by decide +kernel
theorem dL_law_780 : decode cL_law 780 = .ok (.iaload, 1) := by decide +kernel
theorem dL_law_781 : decode cL_law 781 = .ok (.invokestatic 152, 3) := by decide +kernel
theorem dL_law_784 : decode cL_law 784 = .ok (.istore 5, 2) := by decide +kernel
theorem dL_law_786 : decode cL_law 786 = .ok (.aload_n 2, 1) := by decide +kernel
theorem dL_law_787 : decode cL_law 787 = .ok (.aload_n 0, 1) := by decide +kernel
theorem dL_law_788 : decode cL_law 788 = .ok (.iload 4, 2) := by decide +kernel
theorem dL_law_790 : decode cL_law 790 = .ok (.iconst 1, 1) := by decide +kernel
theorem dL_law_791 : decode cL_law 791 = .ok (.iadd, 1) := by decide +kernel
theorem dL_law_792 : decode cL_law 792 = .ok (.iaload, 1) := by decide +kernel
theorem dL_law_793 : decode cL_law 793 = .ok (.aload_n 0, 1) := by decide +kernel
theorem dL_law_794 : decode cL_law 794 = .ok (.iload 4, 2) := by decide +kernel
theorem dL_law_796 : decode cL_law 796 = .ok (.iconst 2, 1) := by decide +kernel
theorem dL_law_797 : decode cL_law 797 = .ok (.iadd, 1) := by decide +kernel
theorem dL_law_798 : decode cL_law 798 = .ok (.iaload, 1) := by decide +kernel
theorem dL_law_799 : decode cL_law 799 = .ok (.invokevirtual 155, 3) := by decide +kernel
theorem dL_law_802 : decode cL_law 802 = .ok (.aload_n 2, 1) := by decide +kernel
theorem dL_law_803 : decode cL_law 803 = .ok (.invokevirtual 121, 3) := by decide +kernel
theorem dL_law_806 : decode cL_law 806 = .ok (.iload 5, 2) := by decide +kernel
theorem dL_law_808 : decode cL_law 808 = .ok (.if_icmp .eq 5, 3) := by decide +kernel
theorem dL_law_811 : decode cL_law 811 = .ok (.iconst 0, 1) := by decide +kernel
theorem dL_law_812 : decode cL_law 812 = .ok (.ireturn, 1) := by decide +kernel
theorem dL_law_813 : decode cL_law 813 = .ok (.goto 1200, 3) := by decide +kernel
theorem dL_law_816 : decode cL_law 816 = .ok (.aload_n 1, 1) := by decide +kernel
theorem dL_law_817 : decode cL_law 817 = .ok (.aload_n 0, 1) := by decide +kernel
theorem dL_law_818 : decode cL_law 818 = .ok (.iload 4, 2) := by decide +kernel
theorem dL_law_820 : decode cL_law 820 = .ok (.iconst 1, 1) := by decide +kernel
theorem dL_law_821 : decode cL_law 821 = .ok (.iadd, 1) := by decide +kernel
theorem dL_law_822 : decode cL_law 822 = .ok (.iaload, 1) := by decide +kernel
theorem dL_law_823 : decode cL_law 823 = .ok (.aload_n 0, 1) := by decide +kernel
theorem dL_law_824 : decode cL_law 824 = .ok (.iload 4, 2) := by decide +kernel
theorem dL_law_826 : decode cL_law 826 = .ok (.iconst 2, 1) := by decide +kernel
theorem dL_law_827 : decode cL_law 827 = .ok (.iadd, 1) := by decide +kernel
theorem dL_law_828 : decode cL_law 828 = .ok (.iaload, 1) := by decide +kernel
theorem dL_law_829 : decode cL_law 829 = .ok (.aload_n 3, 1) := by decide +kernel
theorem dL_law_830 : decode cL_law 830 = .ok (.invokestatic 156, 3) := by decide +kernel
theorem dL_law_833 : decode cL_law 833 = .ok (.istore 5, 2) := by decide +kernel
theorem dL_law_835 : decode cL_law 835 = .ok (.aload_n 2, 1) := by decide +kernel
theorem dL_law_836 : decode cL_law 836 = .ok (.aload_n 0, 1) := by decide +kernel
theorem dL_law_837 : decode cL_law 837 = .ok (.iload 4, 2) := by decide +kernel
theorem dL_law_839 : decode cL_law 839 = .ok (.iconst 1, 1) := by decide +kernel
theorem dL_law_840 : decode cL_law 840 = .ok (.iadd, 1) := by decide +kernel
theorem dL_law_841 : decode cL_law 841 = .ok (.iaload, 1) := by decide +kernel
theorem dL_law_842 : decode cL_law 842 = .ok (.aload_n 0, 1) := by decide +kernel
theorem dL_law_843 : decode cL_law 843 = .ok (.iload 4, 2) := by decide +kernel
theorem dL_law_845 : decode cL_law 845 = .ok (.iconst 2, 1) := by decide +kernel
theorem dL_law_846 : decode cL_law 846 = .ok (.iadd, 1) := by decide +kernel
theorem dL_law_847 : decode cL_law 847 = .ok (.iaload, 1) := by decide +kernel
theorem dL_law_848 : decode cL_law 848 = .ok (.invokevirtual 158, 3) := by decide +kernel
theorem dL_law_851 : decode cL_law 851 = .ok (.istore 6, 2) := by decide +kernel
theorem dL_law_853 : decode cL_law 853 = .ok (.aload_n 2, 1) := by decide +kernel
theorem dL_law_854 : decode cL_law 854 = .ok (.invokevirtual 121, 3) := by decide +kernel
theorem dL_law_857 : decode cL_law 857 = .ok (.iload 5, 2) := by decide +kernel
theorem dL_law_859 : decode cL_law 859 = .ok (.if_icmp .eq 5, 3) := by decide +kernel
theorem dL_law_862 : decode cL_law 862 = .ok (.iconst 0, 1) := by decide +kernel
theorem dL_law_863 : decode cL_law 863 = .ok (.ireturn, 1) := by decide +kernel
theorem dL_law_864 : decode cL_law 864 = .ok (.iload 5, 2) := by decide +kernel
theorem dL_law_866 : decode cL_law 866 = .ok (.ifCond .ne 15, 3) := by decide +kernel
theorem dL_law_869 : decode cL_law 869 = .ok (.aload_n 3, 1) := by decide +kernel
theorem dL_law_870 : decode cL_law 870 = .ok (.iconst 0, 1) := by decide +kernel
theorem dL_law_871 : decode cL_law 871 = .ok (.laload, 1) := by decide +kernel
theorem dL_law_872 : decode cL_law 872 = .ok (.iload 6, 2) := by decide +kernel
theorem dL_law_874 : decode cL_law 874 = .ok (.i2l, 1) := by decide +kernel
theorem dL_law_875 : decode cL_law 875 = .ok (.lcmp, 1) := by decide +kernel
theorem dL_law_876 : decode cL_law 876 = .ok (.ifCond .eq 5, 3) := by decide +kernel
theorem dL_law_879 : decode cL_law 879 = .ok (.iconst 0, 1) := by decide +kernel
theorem dL_law_880 : decode cL_law 880 = .ok (.ireturn, 1) := by decide +kernel
theorem dL_law_881 : decode cL_law 881 = .ok (.goto 1132, 3) := by decide +kernel
theorem dL_law_884 : decode cL_law 884 = .ok (.aload_n 1, 1) := by decide +kernel
theorem dL_law_885 : decode cL_law 885 = .ok (.aload_n 0, 1) := by decide +kernel
theorem dL_law_886 : decode cL_law 886 = .ok (.iload 4, 2) := by decide +kernel
theorem dL_law_888 : decode cL_law 888 = .ok (.iconst 1, 1) := by decide +kernel
theorem dL_law_889 : decode cL_law 889 = .ok (.iadd, 1) := by decide +kernel
theorem dL_law_890 : decode cL_law 890 = .ok (.iaload, 1) := by decide +kernel
theorem dL_law_891 : decode cL_law 891 = .ok (.aload_n 0, 1) := by decide +kernel
theorem dL_law_892 : decode cL_law 892 = .ok (.iload 4, 2) := by decide +kernel
theorem dL_law_894 : decode cL_law 894 = .ok (.iconst 2, 1) := by decide +kernel
theorem dL_law_895 : decode cL_law 895 = .ok (.iadd, 1) := by decide +kernel
theorem dL_law_896 : decode cL_law 896 = .ok (.iaload, 1) := by decide +kernel
theorem dL_law_897 : decode cL_law 897 = .ok (.ifCond .eq 7, 3) := by decide +kernel
theorem dL_law_900 : decode cL_law 900 = .ok (.iconst 1, 1) := by decide +kernel
theorem dL_law_901 : decode cL_law 901 = .ok (.goto 4, 3) := by decide +kernel
theorem dL_law_904 : decode cL_law 904 = .ok (.iconst 0, 1) := by decide +kernel
theorem dL_law_905 : decode cL_law 905 = .ok (.aload_n 3, 1) := by decide +kernel
theorem dL_law_906 : decode cL_law 906 = .ok (.invokestatic 159, 3) := by decide +kernel
theorem dL_law_909 : decode cL_law 909 = .ok (.istore 5, 2) := by decide +kernel
theorem dL_law_911 : decode cL_law 911 = .ok (.aload_n 2, 1) := by decide +kernel
theorem dL_law_912 : decode cL_law 912 = .ok (.aload_n 0, 1) := by decide +kernel
theorem dL_law_913 : decode cL_law 913 = .ok (.iload 4, 2) := by decide +kernel
theorem dL_law_915 : decode cL_law 915 = .ok (.iconst 1, 1) := by decide +kernel
theorem dL_law_916 : decode cL_law 916 = .ok (.iadd, 1) := by decide +kernel
theorem dL_law_917 : decode cL_law 917 = .ok (.iaload, 1) := by decide +kernel
theorem dL_law_918 : decode cL_law 918 = .ok (.aload_n 0, 1) := by decide +kernel
theorem dL_law_919 : decode cL_law 919 = .ok (.iload 4, 2) := by decide +kernel
theorem dL_law_921 : decode cL_law 921 = .ok (.iconst 2, 1) := by decide +kernel
theorem dL_law_922 : decode cL_law 922 = .ok (.iadd, 1) := by decide +kernel
theorem dL_law_923 : decode cL_law 923 = .ok (.iaload, 1) := by decide +kernel
theorem dL_law_924 : decode cL_law 924 = .ok (.ifCond .eq 7, 3) := by decide +kernel
theorem dL_law_927 : decode cL_law 927 = .ok (.iconst 1, 1) := by decide +kernel
theorem dL_law_928 : decode cL_law 928 = .ok (.goto 4, 3) := by decide +kernel
theorem dL_law_931 : decode cL_law 931 = .ok (.iconst 0, 1) := by decide +kernel
theorem dL_law_932 : decode cL_law 932 = .ok (.invokevirtual 162, 3) := by decide +kernel
theorem dL_law_935 : decode cL_law 935 = .ok (.istore 6, 2) := by decide +kernel
theorem dL_law_937 : decode cL_law 937 = .ok (.aload_n 2, 1) := by decide +kernel
theorem dL_law_938 : decode cL_law 938 = .ok (.invokevirtual 121, 3) := by decide +kernel
theorem dL_law_941 : decode cL_law 941 = .ok (.iload 5, 2) := by decide +kernel
theorem dL_law_943 : decode cL_law 943 = .ok (.if_icmp .eq 5, 3) := by decide +kernel
theorem dL_law_946 : decode cL_law 946 = .ok (.iconst 0, 1) := by decide +kernel
theorem dL_law_947 : decode cL_law 947 = .ok (.ireturn, 1) := by decide +kernel
theorem dL_law_948 : decode cL_law 948 = .ok (.iload 5, 2) := by decide +kernel
theorem dL_law_950 : decode cL_law 950 = .ok (.ifCond .ne 15, 3) := by decide +kernel
theorem dL_law_953 : decode cL_law 953 = .ok (.aload_n 3, 1) := by decide +kernel
theorem dL_law_954 : decode cL_law 954 = .ok (.iconst 0, 1) := by decide +kernel
theorem dL_law_955 : decode cL_law 955 = .ok (.laload, 1) := by decide +kernel
theorem dL_law_956 : decode cL_law 956 = .ok (.iload 6, 2) := by decide +kernel
theorem dL_law_958 : decode cL_law 958 = .ok (.i2l, 1) := by decide +kernel
theorem dL_law_959 : decode cL_law 959 = .ok (.lcmp, 1) := by decide +kernel
theorem dL_law_960 : decode cL_law 960 = .ok (.ifCond .eq 5, 3) := by decide +kernel
theorem dL_law_963 : decode cL_law 963 = .ok (.iconst 0, 1) := by decide +kernel
theorem dL_law_964 : decode cL_law 964 = .ok (.ireturn, 1) := by decide +kernel
theorem dL_law_965 : decode cL_law 965 = .ok (.goto 1048, 3) := by decide +kernel
theorem dL_law_968 : decode cL_law 968 = .ok (.aload_n 1, 1) := by decide +kernel
theorem dL_law_969 : decode cL_law 969 = .ok (.aload_n 0, 1) := by decide +kernel
theorem dL_law_970 : decode cL_law 970 = .ok (.iload 4, 2) := by decide +kernel
theorem dL_law_972 : decode cL_law 972 = .ok (.iconst 1, 1) := by decide +kernel
theorem dL_law_973 : decode cL_law 973 = .ok (.iadd, 1) := by decide +kernel
theorem dL_law_974 : decode cL_law 974 = .ok (.iaload, 1) := by decide +kernel
theorem dL_law_975 : decode cL_law 975 = .ok (.aload_n 3, 1) := by decide +kernel
theorem dL_law_976 : decode cL_law 976 = .ok (.invokestatic 163, 3) := by decide +kernel
theorem dL_law_979 : decode cL_law 979 = .ok (.istore 5, 2) := by decide +kernel
theorem dL_law_981 : decode cL_law 981 = .ok (.aload_n 2, 1) := by decide +kernel
theorem dL_law_982 : decode cL_law 982 = .ok (.aload_n 0, 1) := by decide +kernel
theorem dL_law_983 : decode cL_law 983 = .ok (.iload 4, 2) := by decide +kernel
theorem dL_law_985 : decode cL_law 985 = .ok (.iconst 1, 1) := by decide +kernel
theorem dL_law_986 : decode cL_law 986 = .ok (.iadd, 1) := by decide +kernel
theorem dL_law_987 : decode cL_law 987 = .ok (.iaload, 1) := by decide +kernel
theorem dL_law_988 : decode cL_law 988 = .ok (.invokevirtual 165, 3) := by decide +kernel
theorem dL_law_991 : decode cL_law 991 = .ok (.istore 6, 2) := by decide +kernel
theorem dL_law_993 : decode cL_law 993 = .ok (.aload_n 2, 1) := by decide +kernel
theorem dL_law_994 : decode cL_law 994 = .ok (.invokevirtual 121, 3) := by decide +kernel
theorem dL_law_997 : decode cL_law 997 = .ok (.iload 5, 2) := by decide +kernel
theorem dL_law_999 : decode cL_law 999 = .ok (.if_icmp .eq 5, 3) := by decide +kernel
theorem dL_law_1002 : decode cL_law 1002 = .ok (.iconst 0, 1) := by decide +kernel
theorem dL_law_1003 : decode cL_law 1003 = .ok (.ireturn, 1) := by decide +kernel
theorem dL_law_1004 : decode cL_law 1004 = .ok (.iload 5, 2) := by decide +kernel
theorem dL_law_1006 : decode cL_law 1006 = .ok (.ifCond .ne 15, 3) := by decide +kernel
theorem dL_law_1009 : decode cL_law 1009 = .ok (.aload_n 3, 1) := by decide +kernel
theorem dL_law_1010 : decode cL_law 1010 = .ok (.iconst 0, 1) := by decide +kernel
theorem dL_law_1011 : decode cL_law 1011 = .ok (.laload, 1) := by decide +kernel
theorem dL_law_1012 : decode cL_law 1012 = .ok (.iload 6, 2) := by decide +kernel
theorem dL_law_1014 : decode cL_law 1014 = .ok (.i2l, 1) := by decide +kernel
theorem dL_law_1015 : decode cL_law 1015 = .ok (.lcmp, 1) := by decide +kernel
theorem dL_law_1016 : decode cL_law 1016 = .ok (.ifCond .eq 5, 3) := by decide +kernel
theorem dL_law_1019 : decode cL_law 1019 = .ok (.iconst 0, 1) := by decide +kernel
theorem dL_law_1020 : decode cL_law 1020 = .ok (.ireturn, 1) := by decide +kernel
theorem dL_law_1021 : decode cL_law 1021 = .ok (.goto 992, 3) := by decide +kernel
theorem dL_law_1024 : decode cL_law 1024 = .ok (.aload_n 1, 1) := by decide +kernel
theorem dL_law_1025 : decode cL_law 1025 = .ok (.aload_n 0, 1) := by decide +kernel
theorem dL_law_1026 : decode cL_law 1026 = .ok (.iload 4, 2) := by decide +kernel
theorem dL_law_1028 : decode cL_law 1028 = .ok (.iconst 1, 1) := by decide +kernel
theorem dL_law_1029 : decode cL_law 1029 = .ok (.iadd, 1) := by decide +kernel
theorem dL_law_1030 : decode cL_law 1030 = .ok (.iaload, 1) := by decide +kernel
theorem dL_law_1031 : decode cL_law 1031 = .ok (.aload_n 3, 1) := by decide +kernel
theorem dL_law_1032 : decode cL_law 1032 = .ok (.invokestatic 166, 3) := by decide +kernel
theorem dL_law_1035 : decode cL_law 1035 = .ok (.istore 5, 2) := by decide +kernel
theorem dL_law_1037 : decode cL_law 1037 = .ok (.aload_n 2, 1) := by decide +kernel
theorem dL_law_1038 : decode cL_law 1038 = .ok (.aload_n 0, 1) := by decide +kernel
theorem dL_law_1039 : decode cL_law 1039 = .ok (.iload 4, 2) := by decide +kernel
theorem dL_law_1041 : decode cL_law 1041 = .ok (.iconst 1, 1) := by decide +kernel
theorem dL_law_1042 : decode cL_law 1042 = .ok (.iadd, 1) := by decide +kernel
theorem dL_law_1043 : decode cL_law 1043 = .ok (.iaload, 1) := by decide +kernel
theorem dL_law_1044 : decode cL_law 1044 = .ok (.invokevirtual 168, 3) := by decide +kernel
theorem dL_law_1047 : decode cL_law 1047 = .ok (.istore 6, 2) := by decide +kernel
theorem dL_law_1049 : decode cL_law 1049 = .ok (.aload_n 2, 1) := by decide +kernel
theorem dL_law_1050 : decode cL_law 1050 = .ok (.invokevirtual 121, 3) := by decide +kernel
theorem dL_law_1053 : decode cL_law 1053 = .ok (.iload 5, 2) := by decide +kernel
theorem dL_law_1055 : decode cL_law 1055 = .ok (.if_icmp .eq 5, 3) := by decide +kernel
theorem dL_law_1058 : decode cL_law 1058 = .ok (.iconst 0, 1) := by decide +kernel
theorem dL_law_1059 : decode cL_law 1059 = .ok (.ireturn, 1) := by decide +kernel
theorem dL_law_1060 : decode cL_law 1060 = .ok (.iload 5, 2) := by decide +kernel
theorem dL_law_1062 : decode cL_law 1062 = .ok (.ifCond .ne 15, 3) := by decide +kernel
theorem dL_law_1065 : decode cL_law 1065 = .ok (.aload_n 3, 1) := by decide +kernel
theorem dL_law_1066 : decode cL_law 1066 = .ok (.iconst 0, 1) := by decide +kernel
theorem dL_law_1067 : decode cL_law 1067 = .ok (.laload, 1) := by decide +kernel
theorem dL_law_1068 : decode cL_law 1068 = .ok (.iload 6, 2) := by decide +kernel
theorem dL_law_1070 : decode cL_law 1070 = .ok (.i2l, 1) := by decide +kernel
theorem dL_law_1071 : decode cL_law 1071 = .ok (.lcmp, 1) := by decide +kernel
theorem dL_law_1072 : decode cL_law 1072 = .ok (.ifCond .eq 5, 3) := by decide +kernel
theorem dL_law_1075 : decode cL_law 1075 = .ok (.iconst 0, 1) := by decide +kernel
theorem dL_law_1076 : decode cL_law 1076 = .ok (.ireturn, 1) := by decide +kernel
theorem dL_law_1077 : decode cL_law 1077 = .ok (.goto 936, 3) := by decide +kernel
theorem dL_law_1080 : decode cL_law 1080 = .ok (.aload_n 1, 1) := by decide +kernel
theorem dL_law_1081 : decode cL_law 1081 = .ok (.aload_n 0, 1) := by decide +kernel
theorem dL_law_1082 : decode cL_law 1082 = .ok (.iload 4, 2) := by decide +kernel
theorem dL_law_1084 : decode cL_law 1084 = .ok (.iconst 1, 1) := by decide +kernel
theorem dL_law_1085 : decode cL_law 1085 = .ok (.iadd, 1) := by decide +kernel
theorem dL_law_1086 : decode cL_law 1086 = .ok (.iaload, 1) := by decide +kernel
theorem dL_law_1087 : decode cL_law 1087 = .ok (.aload_n 3, 1) := by decide +kernel
theorem dL_law_1088 : decode cL_law 1088 = .ok (.invokestatic 169, 3) := by decide +kernel
theorem dL_law_1091 : decode cL_law 1091 = .ok (.istore 5, 2) := by decide +kernel
theorem dL_law_1093 : decode cL_law 1093 = .ok (.aload_n 2, 1) := by decide +kernel
theorem dL_law_1094 : decode cL_law 1094 = .ok (.aload_n 0, 1) := by decide +kernel
theorem dL_law_1095 : decode cL_law 1095 = .ok (.iload 4, 2) := by decide +kernel
theorem dL_law_1097 : decode cL_law 1097 = .ok (.iconst 1, 1) := by decide +kernel
theorem dL_law_1098 : decode cL_law 1098 = .ok (.iadd, 1) := by decide +kernel
theorem dL_law_1099 : decode cL_law 1099 = .ok (.iaload, 1) := by decide +kernel
theorem dL_law_1100 : decode cL_law 1100 = .ok (.invokevirtual 171, 3) := by decide +kernel
theorem dL_law_1103 : decode cL_law 1103 = .ok (.istore 6, 2) := by decide +kernel
theorem dL_law_1105 : decode cL_law 1105 = .ok (.aload_n 2, 1) := by decide +kernel
theorem dL_law_1106 : decode cL_law 1106 = .ok (.invokevirtual 121, 3) := by decide +kernel
theorem dL_law_1109 : decode cL_law 1109 = .ok (.iload 5, 2) := by decide +kernel
theorem dL_law_1111 : decode cL_law 1111 = .ok (.if_icmp .eq 5, 3) := by decide +kernel
theorem dL_law_1114 : decode cL_law 1114 = .ok (.iconst 0, 1) := by decide +kernel
theorem dL_law_1115 : decode cL_law 1115 = .ok (.ireturn, 1) := by decide +kernel
theorem dL_law_1116 : decode cL_law 1116 = .ok (.iload 5, 2) := by decide +kernel
theorem dL_law_1118 : decode cL_law 1118 = .ok (.ifCond .ne 15, 3) := by decide +kernel
theorem dL_law_1121 : decode cL_law 1121 = .ok (.aload_n 3, 1) := by decide +kernel
theorem dL_law_1122 : decode cL_law 1122 = .ok (.iconst 0, 1) := by decide +kernel
theorem dL_law_1123 : decode cL_law 1123 = .ok (.laload, 1) := by decide +kernel
theorem dL_law_1124 : decode cL_law 1124 = .ok (.iload 6, 2) := by decide +kernel
theorem dL_law_1126 : decode cL_law 1126 = .ok (.i2l, 1) := by decide +kernel
theorem dL_law_1127 : decode cL_law 1127 = .ok (.lcmp, 1) := by decide +kernel
theorem dL_law_1128 : decode cL_law 1128 = .ok (.ifCond .eq 5, 3) := by decide +kernel
theorem dL_law_1131 : decode cL_law 1131 = .ok (.iconst 0, 1) := by decide +kernel
theorem dL_law_1132 : decode cL_law 1132 = .ok (.ireturn, 1) := by decide +kernel
theorem dL_law_1133 : decode cL_law 1133 = .ok (.goto 880, 3) := by decide +kernel
theorem dL_law_1136 : decode cL_law 1136 = .ok (.aload_n 1, 1) := by decide +kernel
theorem dL_law_1137 : decode cL_law 1137 = .ok (.aload_n 0, 1) := by decide +kernel
theorem dL_law_1138 : decode cL_law 1138 = .ok (.iload 4, 2) := by decide +kernel
theorem dL_law_1140 : decode cL_law 1140 = .ok (.iconst 1, 1) := by decide +kernel
theorem dL_law_1141 : decode cL_law 1141 = .ok (.iadd, 1) := by decide +kernel
theorem dL_law_1142 : decode cL_law 1142 = .ok (.iaload, 1) := by decide +kernel
theorem dL_law_1143 : decode cL_law 1143 = .ok (.aload_n 0, 1) := by decide +kernel
theorem dL_law_1144 : decode cL_law 1144 = .ok (.iload 4, 2) := by decide +kernel
theorem dL_law_1146 : decode cL_law 1146 = .ok (.iconst 2, 1) := by decide +kernel
theorem dL_law_1147 : decode cL_law 1147 = .ok (.iadd, 1) := by decide +kernel
theorem dL_law_1148 : decode cL_law 1148 = .ok (.iaload, 1) := by decide +kernel
theorem dL_law_1149 : decode cL_law 1149 = .ok (.aload_n 3, 1) := by decide +kernel
theorem dL_law_1150 : decode cL_law 1150 = .ok (.invokestatic 172, 3) := by decide +kernel
theorem dL_law_1153 : decode cL_law 1153 = .ok (.istore 5, 2) := by decide +kernel
theorem dL_law_1155 : decode cL_law 1155 = .ok (.aload_n 2, 1) := by decide +kernel
theorem dL_law_1156 : decode cL_law 1156 = .ok (.aload_n 0, 1) := by decide +kernel
theorem dL_law_1157 : decode cL_law 1157 = .ok (.iload 4, 2) := by decide +kernel
theorem dL_law_1159 : decode cL_law 1159 = .ok (.iconst 1, 1) := by decide +kernel
theorem dL_law_1160 : decode cL_law 1160 = .ok (.iadd, 1) := by decide +kernel
theorem dL_law_1161 : decode cL_law 1161 = .ok (.iaload, 1) := by decide +kernel
theorem dL_law_1162 : decode cL_law 1162 = .ok (.aload_n 0, 1) := by decide +kernel
theorem dL_law_1163 : decode cL_law 1163 = .ok (.iload 4, 2) := by decide +kernel
theorem dL_law_1165 : decode cL_law 1165 = .ok (.iconst 2, 1) := by decide +kernel
theorem dL_law_1166 : decode cL_law 1166 = .ok (.iadd, 1) := by decide +kernel
theorem dL_law_1167 : decode cL_law 1167 = .ok (.iaload, 1) := by decide +kernel
theorem dL_law_1168 : decode cL_law 1168 = .ok (.invokevirtual 174, 3) := by decide +kernel
theorem dL_law_1171 : decode cL_law 1171 = .ok (.istore 6, 2) := by decide +kernel
theorem dL_law_1173 : decode cL_law 1173 = .ok (.aload_n 2, 1) := by decide +kernel
theorem dL_law_1174 : decode cL_law 1174 = .ok (.invokevirtual 121, 3) := by decide +kernel
theorem dL_law_1177 : decode cL_law 1177 = .ok (.iload 5, 2) := by decide +kernel
theorem dL_law_1179 : decode cL_law 1179 = .ok (.if_icmp .eq 5, 3) := by decide +kernel
theorem dL_law_1182 : decode cL_law 1182 = .ok (.iconst 0, 1) := by decide +kernel
theorem dL_law_1183 : decode cL_law 1183 = .ok (.ireturn, 1) := by decide +kernel
theorem dL_law_1184 : decode cL_law 1184 = .ok (.iload 5, 2) := by decide +kernel
theorem dL_law_1186 : decode cL_law 1186 = .ok (.ifCond .ne 15, 3) := by decide +kernel
theorem dL_law_1189 : decode cL_law 1189 = .ok (.aload_n 3, 1) := by decide +kernel
theorem dL_law_1190 : decode cL_law 1190 = .ok (.iconst 0, 1) := by decide +kernel
theorem dL_law_1191 : decode cL_law 1191 = .ok (.laload, 1) := by decide +kernel
theorem dL_law_1192 : decode cL_law 1192 = .ok (.iload 6, 2) := by decide +kernel
theorem dL_law_1194 : decode cL_law 1194 = .ok (.i2l, 1) := by decide +kernel
theorem dL_law_1195 : decode cL_law 1195 = .ok (.lcmp, 1) := by decide +kernel
theorem dL_law_1196 : decode cL_law 1196 = .ok (.ifCond .eq 5, 3) := by decide +kernel
theorem dL_law_1199 : decode cL_law 1199 = .ok (.iconst 0, 1) := by decide +kernel
theorem dL_law_1200 : decode cL_law 1200 = .ok (.ireturn, 1) := by decide +kernel
theorem dL_law_1201 : decode cL_law 1201 = .ok (.goto 812, 3) := by decide +kernel
theorem dL_law_1204 : decode cL_law 1204 = .ok (.aload_n 1, 1) := by decide +kernel
theorem dL_law_1205 : decode cL_law 1205 = .ok (.aload_n 3, 1) := by decide +kernel
theorem dL_law_1206 : decode cL_law 1206 = .ok (.invokestatic 175, 3) := by decide +kernel
theorem dL_law_1209 : decode cL_law 1209 = .ok (.istore 5, 2) := by decide +kernel
theorem dL_law_1211 : decode cL_law 1211 = .ok (.aload_n 2, 1) := by decide +kernel
theorem dL_law_1212 : decode cL_law 1212 = .ok (.invokevirtual 178, 3) := by decide +kernel
theorem dL_law_1215 : decode cL_law 1215 = .ok (.istore 6, 2) := by decide +kernel
theorem dL_law_1217 : decode cL_law 1217 = .ok (.aload_n 2, 1) := by decide +kernel
theorem dL_law_1218 : decode cL_law 1218 = .ok (.invokevirtual 121, 3) := by decide +kernel
theorem dL_law_1221 : decode cL_law 1221 = .ok (.iload 5, 2) := by decide +kernel
theorem dL_law_1223 : decode cL_law 1223 = .ok (.if_icmp .eq 5, 3) := by decide +kernel
theorem dL_law_1226 : decode cL_law 1226 = .ok (.iconst 0, 1) := by decide +kernel
theorem dL_law_1227 : decode cL_law 1227 = .ok (.ireturn, 1) := by decide +kernel
theorem dL_law_1228 : decode cL_law 1228 = .ok (.iload 5, 2) := by decide +kernel
theorem dL_law_1230 : decode cL_law 1230 = .ok (.ifCond .ne 15, 3) := by decide +kernel
theorem dL_law_1233 : decode cL_law 1233 = .ok (.aload_n 3, 1) := by decide +kernel
theorem dL_law_1234 : decode cL_law 1234 = .ok (.iconst 0, 1) := by decide +kernel
theorem dL_law_1235 : decode cL_law 1235 = .ok (.laload, 1) := by decide +kernel
theorem dL_law_1236 : decode cL_law 1236 = .ok (.iload 6, 2) := by decide +kernel
theorem dL_law_1238 : decode cL_law 1238 = .ok (.i2l, 1) := by decide +kernel
theorem dL_law_1239 : decode cL_law 1239 = .ok (.lcmp, 1) := by decide +kernel
theorem dL_law_1240 : decode cL_law 1240 = .ok (.ifCond .eq 5, 3) := by decide +kernel
theorem dL_law_1243 : decode cL_law 1243 = .ok (.iconst 0, 1) := by decide +kernel
theorem dL_law_1244 : decode cL_law 1244 = .ok (.ireturn, 1) := by decide +kernel
theorem dL_law_1245 : decode cL_law 1245 = .ok (.goto 768, 3) := by decide +kernel
theorem dL_law_1248 : decode cL_law 1248 = .ok (.aload_n 1, 1) := by decide +kernel
theorem dL_law_1249 : decode cL_law 1249 = .ok (.aload_n 3, 1) := by decide +kernel
theorem dL_law_1250 : decode cL_law 1250 = .ok (.invokestatic 179, 3) := by decide +kernel
theorem dL_law_1253 : decode cL_law 1253 = .ok (.istore 5, 2) := by decide +kernel
theorem dL_law_1255 : decode cL_law 1255 = .ok (.aload_n 2, 1) := by decide +kernel
theorem dL_law_1256 : decode cL_law 1256 = .ok (.invokevirtual 181, 3) := by decide +kernel
theorem dL_law_1259 : decode cL_law 1259 = .ok (.istore 6, 2) := by decide +kernel
theorem dL_law_1261 : decode cL_law 1261 = .ok (.aload_n 2, 1) := by decide +kernel
theorem dL_law_1262 : decode cL_law 1262 = .ok (.invokevirtual 121, 3) := by decide +kernel
theorem dL_law_1265 : decode cL_law 1265 = .ok (.iload 5, 2) := by decide +kernel
theorem dL_law_1267 : decode cL_law 1267 = .ok (.if_icmp .eq 5, 3) := by decide +kernel
theorem dL_law_1270 : decode cL_law 1270 = .ok (.iconst 0, 1) := by decide +kernel
theorem dL_law_1271 : decode cL_law 1271 = .ok (.ireturn, 1) := by decide +kernel
theorem dL_law_1272 : decode cL_law 1272 = .ok (.iload 5, 2) := by decide +kernel
theorem dL_law_1274 : decode cL_law 1274 = .ok (.ifCond .ne 15, 3) := by decide +kernel
theorem dL_law_1277 : decode cL_law 1277 = .ok (.aload_n 3, 1) := by decide +kernel
theorem dL_law_1278 : decode cL_law 1278 = .ok (.iconst 0, 1) := by decide +kernel
theorem dL_law_1279 : decode cL_law 1279 = .ok (.laload, 1) := by decide +kernel
theorem dL_law_1280 : decode cL_law 1280 = .ok (.iload 6, 2) := by decide +kernel
theorem dL_law_1282 : decode cL_law 1282 = .ok (.i2l, 1) := by decide +kernel
theorem dL_law_1283 : decode cL_law 1283 = .ok (.lcmp, 1) := by decide +kernel
theorem dL_law_1284 : decode cL_law 1284 = .ok (.ifCond .eq 5, 3) := by decide +kernel
theorem dL_law_1287 : decode cL_law 1287 = .ok (.iconst 0, 1) := by decide +kernel
theorem dL_law_1288 : decode cL_law 1288 = .ok (.ireturn, 1) := by decide +kernel
theorem dL_law_1289 : decode cL_law 1289 = .ok (.goto 724, 3) := by decide +kernel
theorem dL_law_1292 : decode cL_law 1292 = .ok (.aload_n 1, 1) := by decide +kernel
theorem dL_law_1293 : decode cL_law 1293 = .ok (.aload_n 0, 1) := by decide +kernel
theorem dL_law_1294 : decode cL_law 1294 = .ok (.iload 4, 2) := by decide +kernel
theorem dL_law_1296 : decode cL_law 1296 = .ok (.iconst 1, 1) := by decide +kernel
theorem dL_law_1297 : decode cL_law 1297 = .ok (.iadd, 1) := by decide +kernel
theorem dL_law_1298 : decode cL_law 1298 = .ok (.iaload, 1) := by decide +kernel
theorem dL_law_1299 : decode cL_law 1299 = .ok (.aload_n 3, 1) := by decide +kernel
theorem dL_law_1300 : decode cL_law 1300 = .ok (.invokestatic 182, 3) := by decide +kernel
theorem dL_law_1303 : decode cL_law 1303 = .ok (.istore 5, 2) := by decide +kernel
theorem dL_law_1305 : decode cL_law 1305 = .ok (.aload_n 2, 1) := by decide +kernel
theorem dL_law_1306 : decode cL_law 1306 = .ok (.aload_n 0, 1) := by decide +kernel
theorem dL_law_1307 : decode cL_law 1307 = .ok (.iload 4, 2) := by decide +kernel
theorem dL_law_1309 : decode cL_law 1309 = .ok (.iconst 1, 1) := by decide +kernel
theorem dL_law_1310 : decode cL_law 1310 = .ok (.iadd, 1) := by decide +kernel
theorem dL_law_1311 : decode cL_law 1311 = .ok (.iaload, 1) := by decide +kernel
theorem dL_law_1312 : decode cL_law 1312 = .ok (.invokevirtual 184, 3) := by decide +kernel
theorem dL_law_1315 : decode cL_law 1315 = .ok (.istore 6, 2) := by decide +kernel
theorem dL_law_1317 : decode cL_law 1317 = .ok (.aload_n 2, 1) := by decide +kernel
theorem dL_law_1318 : decode cL_law 1318 = .ok (.invokevirtual 121, 3) := by decide +kernel
theorem dL_law_1321 : decode cL_law 1321 = .ok (.iload 5, 2) := by decide +kernel
theorem dL_law_1323 : decode cL_law 1323 = .ok (.if_icmp .eq 5, 3) := by decide +kernel
theorem dL_law_1326 : decode cL_law 1326 = .ok (.iconst 0, 1) := by decide +kernel
theorem dL_law_1327 : decode cL_law 1327 = .ok (.ireturn, 1) := by decide +kernel
theorem dL_law_1328 : decode cL_law 1328 = .ok (.iload 5, 2) := by decide +kernel
theorem dL_law_1330 : decode cL_law 1330 = .ok (.ifCond .ne 15, 3) := by decide +kernel
theorem dL_law_1333 : decode cL_law 1333 = .ok (.aload_n 3, 1) := by decide +kernel
theorem dL_law_1334 : decode cL_law 1334 = .ok (.iconst 0, 1) := by decide +kernel
theorem dL_law_1335 : decode cL_law 1335 = .ok (.laload, 1) := by decide +kernel
theorem dL_law_1336 : decode cL_law 1336 = .ok (.iload 6, 2) := by decide +kernel
theorem dL_law_1338 : decode cL_law 1338 = .ok (.i2l, 1) := by decide +kernel
theorem dL_law_1339 : decode cL_law 1339 = .ok (.lcmp, 1) := by decide +kernel
theorem dL_law_1340 : decode cL_law 1340 = .ok (.ifCond .eq 5, 3) := by decide +kernel
theorem dL_law_1343 : decode cL_law 1343 = .ok (.iconst 0, 1) := by decide +kernel
theorem dL_law_1344 : decode cL_law 1344 = .ok (.ireturn, 1) := by decide +kernel
theorem dL_law_1345 : decode cL_law 1345 = .ok (.goto 668, 3) := by decide +kernel
theorem dL_law_1348 : decode cL_law 1348 = .ok (.aload_n 1, 1) := by decide +kernel
theorem dL_law_1349 : decode cL_law 1349 = .ok (.aload_n 0, 1) := by decide +kernel
theorem dL_law_1350 : decode cL_law 1350 = .ok (.iload 4, 2) := by decide +kernel
theorem dL_law_1352 : decode cL_law 1352 = .ok (.iconst 1, 1) := by decide +kernel
theorem dL_law_1353 : decode cL_law 1353 = .ok (.iadd, 1) := by decide +kernel
theorem dL_law_1354 : decode cL_law 1354 = .ok (.iaload, 1) := by decide +kernel
theorem dL_law_1355 : decode cL_law 1355 = .ok (.aload_n 3, 1) := by decide +kernel
theorem dL_law_1356 : decode cL_law 1356 = .ok (.invokestatic 185, 3) := by decide +kernel
theorem dL_law_1359 : decode cL_law 1359 = .ok (.istore 5, 2) := by decide +kernel
theorem dL_law_1361 : decode cL_law 1361 = .ok (.aload_n 2, 1) := by decide +kernel
theorem dL_law_1362 : decode cL_law 1362 = .ok (.aload_n 0, 1) := by decide +kernel
theorem dL_law_1363 : decode cL_law 1363 = .ok (.iload 4, 2) := by decide +kernel
theorem dL_law_1365 : decode cL_law 1365 = .ok (.iconst 1, 1) := by decide +kernel
theorem dL_law_1366 : decode cL_law 1366 = .ok (.iadd, 1) := by decide +kernel
theorem dL_law_1367 : decode cL_law 1367 = .ok (.iaload, 1) := by decide +kernel
theorem dL_law_1368 : decode cL_law 1368 = .ok (.invokevirtual 187, 3) := by decide +kernel
theorem dL_law_1371 : decode cL_law 1371 = .ok (.istore 6, 2) := by decide +kernel
theorem dL_law_1373 : decode cL_law 1373 = .ok (.aload_n 2, 1) := by decide +kernel
theorem dL_law_1374 : decode cL_law 1374 = .ok (.invokevirtual 121, 3) := by decide +kernel
theorem dL_law_1377 : decode cL_law 1377 = .ok (.iload 5, 2) := by decide +kernel
theorem dL_law_1379 : decode cL_law 1379 = .ok (.if_icmp .eq 5, 3) := by decide +kernel
theorem dL_law_1382 : decode cL_law 1382 = .ok (.iconst 0, 1) := by decide +kernel
theorem dL_law_1383 : decode cL_law 1383 = .ok (.ireturn, 1) := by decide +kernel
theorem dL_law_1384 : decode cL_law 1384 = .ok (.iload 5, 2) := by decide +kernel
theorem dL_law_1386 : decode cL_law 1386 = .ok (.ifCond .ne 15, 3) := by decide +kernel
theorem dL_law_1389 : decode cL_law 1389 = .ok (.aload_n 3, 1) := by decide +kernel
theorem dL_law_1390 : decode cL_law 1390 = .ok (.iconst 0, 1) := by decide +kernel
theorem dL_law_1391 : decode cL_law 1391 = .ok (.laload, 1) := by decide +kernel
theorem dL_law_1392 : decode cL_law 1392 = .ok (.iload 6, 2) := by decide +kernel
theorem dL_law_1394 : decode cL_law 1394 = .ok (.i2l, 1) := by decide +kernel
theorem dL_law_1395 : decode cL_law 1395 = .ok (.lcmp, 1) := by decide +kernel
theorem dL_law_1396 : decode cL_law 1396 = .ok (.ifCond .eq 5, 3) := by decide +kernel
theorem dL_law_1399 : decode cL_law 1399 = .ok (.iconst 0, 1) := by decide +kernel
theorem dL_law_1400 : decode cL_law 1400 = .ok (.ireturn, 1) := by decide +kernel
theorem dL_law_1401 : decode cL_law 1401 = .ok (.goto 612, 3) := by decide +kernel
theorem dL_law_1404 : decode cL_law 1404 = .ok (.aload_n 1, 1) := by decide +kernel
theorem dL_law_1405 : decode cL_law 1405 = .ok (.aload_n 0, 1) := by decide +kernel
theorem dL_law_1406 : decode cL_law 1406 = .ok (.iload 4, 2) := by decide +kernel
theorem dL_law_1408 : decode cL_law 1408 = .ok (.iconst 1, 1) := by decide +kernel
theorem dL_law_1409 : decode cL_law 1409 = .ok (.iadd, 1) := by decide +kernel
theorem dL_law_1410 : decode cL_law 1410 = .ok (.iaload, 1) := by decide +kernel
theorem dL_law_1411 : decode cL_law 1411 = .ok (.aload_n 0, 1) := by decide +kernel
theorem dL_law_1412 : decode cL_law 1412 = .ok (.iload 4, 2) := by decide +kernel
theorem dL_law_1414 : decode cL_law 1414 = .ok (.iconst 2, 1) := by decide +kernel
theorem dL_law_1415 : decode cL_law 1415 = .ok (.iadd, 1) := by decide +kernel
theorem dL_law_1416 : decode cL_law 1416 = .ok (.iaload, 1) := by decide +kernel
theorem dL_law_1417 : decode cL_law 1417 = .ok (.aload_n 3, 1) := by decide +kernel
theorem dL_law_1418 : decode cL_law 1418 = .ok (.invokestatic 188, 3) := by decide +kernel
theorem dL_law_1421 : decode cL_law 1421 = .ok (.istore 5, 2) := by decide +kernel
theorem dL_law_1423 : decode cL_law 1423 = .ok (.aload_n 2, 1) := by decide +kernel
theorem dL_law_1424 : decode cL_law 1424 = .ok (.aload_n 0, 1) := by decide +kernel
theorem dL_law_1425 : decode cL_law 1425 = .ok (.iload 4, 2) := by decide +kernel
theorem dL_law_1427 : decode cL_law 1427 = .ok (.iconst 1, 1) := by decide +kernel
theorem dL_law_1428 : decode cL_law 1428 = .ok (.iadd, 1) := by decide +kernel
theorem dL_law_1429 : decode cL_law 1429 = .ok (.iaload, 1) := by decide +kernel
theorem dL_law_1430 : decode cL_law 1430 = .ok (.aload_n 0, 1) := by decide +kernel
theorem dL_law_1431 : decode cL_law 1431 = .ok (.iload 4, 2) := by decide +kernel
theorem dL_law_1433 : decode cL_law 1433 = .ok (.iconst 2, 1) := by decide +kernel
theorem dL_law_1434 : decode cL_law 1434 = .ok (.iadd, 1) := by decide +kernel
theorem dL_law_1435 : decode cL_law 1435 = .ok (.iaload, 1) := by decide +kernel
theorem dL_law_1436 : decode cL_law 1436 = .ok (.invokevirtual 190, 3) := by decide +kernel
theorem dL_law_1439 : decode cL_law 1439 = .ok (.istore 6, 2) := by decide +kernel
theorem dL_law_1441 : decode cL_law 1441 = .ok (.aload_n 2, 1) := by decide +kernel
theorem dL_law_1442 : decode cL_law 1442 = .ok (.invokevirtual 121, 3) := by decide +kernel
theorem dL_law_1445 : decode cL_law 1445 = .ok (.iload 5, 2) := by decide +kernel
theorem dL_law_1447 : decode cL_law 1447 = .ok (.if_icmp .eq 5, 3) := by decide +kernel
theorem dL_law_1450 : decode cL_law 1450 = .ok (.iconst 0, 1) := by decide +kernel
theorem dL_law_1451 : decode cL_law 1451 = .ok (.ireturn, 1) := by decide +kernel
theorem dL_law_1452 : decode cL_law 1452 = .ok (.iload 5, 2) := by decide +kernel
theorem dL_law_1454 : decode cL_law 1454 = .ok (.ifCond .ne 15, 3) := by decide +kernel
theorem dL_law_1457 : decode cL_law 1457 = .ok (.aload_n 3, 1) := by decide +kernel
theorem dL_law_1458 : decode cL_law 1458 = .ok (.iconst 0, 1) := by decide +kernel
theorem dL_law_1459 : decode cL_law 1459 = .ok (.laload, 1) := by decide +kernel
theorem dL_law_1460 : decode cL_law 1460 = .ok (.iload 6, 2) := by decide +kernel
theorem dL_law_1462 : decode cL_law 1462 = .ok (.i2l, 1) := by decide +kernel
theorem dL_law_1463 : decode cL_law 1463 = .ok (.lcmp, 1) := by decide +kernel
theorem dL_law_1464 : decode cL_law 1464 = .ok (.ifCond .eq 5, 3) := by decide +kernel
theorem dL_law_1467 : decode cL_law 1467 = .ok (.iconst 0, 1) := by decide +kernel
theorem dL_law_1468 : decode cL_law 1468 = .ok (.ireturn, 1) := by decide +kernel
theorem dL_law_1469 : decode cL_law 1469 = .ok (.goto 544, 3) := by decide +kernel
theorem dL_law_1472 : decode cL_law 1472 = .ok (.aload_n 1, 1) := by decide +kernel
theorem dL_law_1473 : decode cL_law 1473 = .ok (.aload_n 0, 1) := by decide +kernel
theorem dL_law_1474 : decode cL_law 1474 = .ok (.iload 4, 2) := by decide +kernel
theorem dL_law_1476 : decode cL_law 1476 = .ok (.iconst 1, 1) := by decide +kernel
theorem dL_law_1477 : decode cL_law 1477 = .ok (.iadd, 1) := by decide +kernel
theorem dL_law_1478 : decode cL_law 1478 = .ok (.iaload, 1) := by decide +kernel
theorem dL_law_1479 : decode cL_law 1479 = .ok (.aload_n 0, 1) := by decide +kernel
theorem dL_law_1480 : decode cL_law 1480 = .ok (.iload 4, 2) := by decide +kernel
theorem dL_law_1482 : decode cL_law 1482 = .ok (.iconst 2, 1) := by decide +kernel
theorem dL_law_1483 : decode cL_law 1483 = .ok (.iadd, 1) := by decide +kernel
theorem dL_law_1484 : decode cL_law 1484 = .ok (.iaload, 1) := by decide +kernel
theorem dL_law_1485 : decode cL_law 1485 = .ok (.aload_n 3, 1) := by decide +kernel
theorem dL_law_1486 : decode cL_law 1486 = .ok (.invokestatic 191, 3) := by decide +kernel
theorem dL_law_1489 : decode cL_law 1489 = .ok (.istore 5, 2) := by decide +kernel
theorem dL_law_1491 : decode cL_law 1491 = .ok (.aload_n 2, 1) := by decide +kernel
theorem dL_law_1492 : decode cL_law 1492 = .ok (.aload_n 0, 1) := by decide +kernel
theorem dL_law_1493 : decode cL_law 1493 = .ok (.iload 4, 2) := by decide +kernel
theorem dL_law_1495 : decode cL_law 1495 = .ok (.iconst 1, 1) := by decide +kernel
theorem dL_law_1496 : decode cL_law 1496 = .ok (.iadd, 1) := by decide +kernel
theorem dL_law_1497 : decode cL_law 1497 = .ok (.iaload, 1) := by decide +kernel
theorem dL_law_1498 : decode cL_law 1498 = .ok (.aload_n 0, 1) := by decide +kernel
theorem dL_law_1499 : decode cL_law 1499 = .ok (.iload 4, 2) := by decide +kernel
theorem dL_law_1501 : decode cL_law 1501 = .ok (.iconst 2, 1) := by decide +kernel
theorem dL_law_1502 : decode cL_law 1502 = .ok (.iadd, 1) := by decide +kernel
theorem dL_law_1503 : decode cL_law 1503 = .ok (.iaload, 1) := by decide +kernel
theorem dL_law_1504 : decode cL_law 1504 = .ok (.invokevirtual 193, 3) := by decide +kernel
theorem dL_law_1507 : decode cL_law 1507 = .ok (.istore 6, 2) := by decide +kernel
theorem dL_law_1509 : decode cL_law 1509 = .ok (.aload_n 2, 1) := by decide +kernel
theorem dL_law_1510 : decode cL_law 1510 = .ok (.invokevirtual 121, 3) := by decide +kernel
theorem dL_law_1513 : decode cL_law 1513 = .ok (.iload 5, 2) := by decide +kernel
theorem dL_law_1515 : decode cL_law 1515 = .ok (.if_icmp .eq 5, 3) := by decide +kernel
theorem dL_law_1518 : decode cL_law 1518 = .ok (.iconst 0, 1) := by decide +kernel
theorem dL_law_1519 : decode cL_law 1519 = .ok (.ireturn, 1) := by decide +kernel
theorem dL_law_1520 : decode cL_law 1520 = .ok (.iload 5, 2) := by decide +kernel
theorem dL_law_1522 : decode cL_law 1522 = .ok (.ifCond .ne 15, 3) := by decide +kernel
theorem dL_law_1525 : decode cL_law 1525 = .ok (.aload_n 3, 1) := by decide +kernel
theorem dL_law_1526 : decode cL_law 1526 = .ok (.iconst 0, 1) := by decide +kernel
theorem dL_law_1527 : decode cL_law 1527 = .ok (.laload, 1) := by decide +kernel
theorem dL_law_1528 : decode cL_law 1528 = .ok (.iload 6, 2) := by decide +kernel
theorem dL_law_1530 : decode cL_law 1530 = .ok (.i2l, 1) := by decide +kernel
theorem dL_law_1531 : decode cL_law 1531 = .ok (.lcmp, 1) := by decide +kernel
theorem dL_law_1532 : decode cL_law 1532 = .ok (.ifCond .eq 5, 3) := by decide +kernel
theorem dL_law_1535 : decode cL_law 1535 = .ok (.iconst 0, 1) := by decide +kernel
theorem dL_law_1536 : decode cL_law 1536 = .ok (.ireturn, 1) := by decide +kernel
theorem dL_law_1537 : decode cL_law 1537 = .ok (.goto 476, 3) := by decide +kernel
theorem dL_law_1540 : decode cL_law 1540 = .ok (.aload_n 1, 1) := by decide +kernel
theorem dL_law_1541 : decode cL_law 1541 = .ok (.aload_n 0, 1) := by decide +kernel
theorem dL_law_1542 : decode cL_law 1542 = .ok (.iload 4, 2) := by decide +kernel
theorem dL_law_1544 : decode cL_law 1544 = .ok (.iconst 1, 1) := by decide +kernel
theorem dL_law_1545 : decode cL_law 1545 = .ok (.iadd, 1) := by decide +kernel
theorem dL_law_1546 : decode cL_law 1546 = .ok (.iaload, 1) := by decide +kernel
theorem dL_law_1547 : decode cL_law 1547 = .ok (.aload_n 3, 1) := by decide +kernel
theorem dL_law_1548 : decode cL_law 1548 = .ok (.invokestatic 194, 3) := by decide +kernel
theorem dL_law_1551 : decode cL_law 1551 = .ok (.istore 5, 2) := by decide +kernel
theorem dL_law_1553 : decode cL_law 1553 = .ok (.aload_n 2, 1) := by decide +kernel
theorem dL_law_1554 : decode cL_law 1554 = .ok (.aload_n 0, 1) := by decide +kernel
theorem dL_law_1555 : decode cL_law 1555 = .ok (.iload 4, 2) := by decide +kernel
theorem dL_law_1557 : decode cL_law 1557 = .ok (.iconst 1, 1) := by decide +kernel
theorem dL_law_1558 : decode cL_law 1558 = .ok (.iadd, 1) := by decide +kernel
theorem dL_law_1559 : decode cL_law 1559 = .ok (.iaload, 1) := by decide +kernel
theorem dL_law_1560 : decode cL_law 1560 = .ok (.invokevirtual 196, 3) := by decide +kernel
theorem dL_law_1563 : decode cL_law 1563 = .ok (.istore 6, 2) := by decide +kernel
theorem dL_law_1565 : decode cL_law 1565 = .ok (.aload_n 2, 1) := by decide +kernel
theorem dL_law_1566 : decode cL_law 1566 = .ok (.invokevirtual 121, 3) := by decide +kernel
theorem dL_law_1569 : decode cL_law 1569 = .ok (.iload 5, 2) := by decide +kernel
theorem dL_law_1571 : decode cL_law 1571 = .ok (.if_icmp .eq 5, 3) := by decide +kernel
theorem dL_law_1574 : decode cL_law 1574 = .ok (.iconst 0, 1) := by decide +kernel
theorem dL_law_1575 : decode cL_law 1575 = .ok (.ireturn, 1) := by decide +kernel
theorem dL_law_1576 : decode cL_law 1576 = .ok (.iload 5, 2) := by decide +kernel
theorem dL_law_1578 : decode cL_law 1578 = .ok (.ifCond .ne 15, 3) := by decide +kernel
theorem dL_law_1581 : decode cL_law 1581 = .ok (.aload_n 3, 1) := by decide +kernel
theorem dL_law_1582 : decode cL_law 1582 = .ok (.iconst 0, 1) := by decide +kernel
theorem dL_law_1583 : decode cL_law 1583 = .ok (.laload, 1) := by decide +kernel
theorem dL_law_1584 : decode cL_law 1584 = .ok (.iload 6, 2) := by decide +kernel
theorem dL_law_1586 : decode cL_law 1586 = .ok (.i2l, 1) := by decide +kernel
theorem dL_law_1587 : decode cL_law 1587 = .ok (.lcmp, 1) := by decide +kernel
theorem dL_law_1588 : decode cL_law 1588 = .ok (.ifCond .eq 5, 3) := by decide +kernel
theorem dL_law_1591 : decode cL_law 1591 = .ok (.iconst 0, 1) := by decide +kernel
theorem dL_law_1592 : decode cL_law 1592 = .ok (.ireturn, 1) := by decide +kernel
theorem dL_law_1593 : decode cL_law 1593 = .ok (.goto 420, 3) := by decide +kernel
theorem dL_law_1596 : decode cL_law 1596 = .ok (.aload_n 1, 1) := by decide +kernel
theorem dL_law_1597 : decode cL_law 1597 = .ok (.aload_n 0, 1) := by decide +kernel
theorem dL_law_1598 : decode cL_law 1598 = .ok (.iload 4, 2) := by decide +kernel
theorem dL_law_1600 : decode cL_law 1600 = .ok (.iconst 1, 1) := by decide +kernel
theorem dL_law_1601 : decode cL_law 1601 = .ok (.iadd, 1) := by decide +kernel
theorem dL_law_1602 : decode cL_law 1602 = .ok (.iaload, 1) := by decide +kernel
theorem dL_law_1603 : decode cL_law 1603 = .ok (.aload_n 0, 1) := by decide +kernel
theorem dL_law_1604 : decode cL_law 1604 = .ok (.iload 4, 2) := by decide +kernel
theorem dL_law_1606 : decode cL_law 1606 = .ok (.iconst 2, 1) := by decide +kernel
theorem dL_law_1607 : decode cL_law 1607 = .ok (.iadd, 1) := by decide +kernel
theorem dL_law_1608 : decode cL_law 1608 = .ok (.iaload, 1) := by decide +kernel
theorem dL_law_1609 : decode cL_law 1609 = .ok (.aload_n 3, 1) := by decide +kernel
theorem dL_law_1610 : decode cL_law 1610 = .ok (.invokestatic 197, 3) := by decide +kernel
theorem dL_law_1613 : decode cL_law 1613 = .ok (.istore 5, 2) := by decide +kernel
theorem dL_law_1615 : decode cL_law 1615 = .ok (.aload_n 2, 1) := by decide +kernel
theorem dL_law_1616 : decode cL_law 1616 = .ok (.aload_n 0, 1) := by decide +kernel
theorem dL_law_1617 : decode cL_law 1617 = .ok (.iload 4, 2) := by decide +kernel
theorem dL_law_1619 : decode cL_law 1619 = .ok (.iconst 1, 1) := by decide +kernel
theorem dL_law_1620 : decode cL_law 1620 = .ok (.iadd, 1) := by decide +kernel
theorem dL_law_1621 : decode cL_law 1621 = .ok (.iaload, 1) := by decide +kernel
theorem dL_law_1622 : decode cL_law 1622 = .ok (.aload_n 0, 1) := by decide +kernel
theorem dL_law_1623 : decode cL_law 1623 = .ok (.iload 4, 2) := by decide +kernel
theorem dL_law_1625 : decode cL_law 1625 = .ok (.iconst 2, 1) := by decide +kernel
theorem dL_law_1626 : decode cL_law 1626 = .ok (.iadd, 1) := by decide +kernel
theorem dL_law_1627 : decode cL_law 1627 = .ok (.iaload, 1) := by decide +kernel
theorem dL_law_1628 : decode cL_law 1628 = .ok (.invokevirtual 199, 3) := by decide +kernel
theorem dL_law_1631 : decode cL_law 1631 = .ok (.istore 6, 2) := by decide +kernel
theorem dL_law_1633 : decode cL_law 1633 = .ok (.aload_n 2, 1) := by decide +kernel
theorem dL_law_1634 : decode cL_law 1634 = .ok (.invokevirtual 121, 3) := by decide +kernel
theorem dL_law_1637 : decode cL_law 1637 = .ok (.iload 5, 2) := by decide +kernel
theorem dL_law_1639 : decode cL_law 1639 = .ok (.if_icmp .eq 5, 3) := by decide +kernel
theorem dL_law_1642 : decode cL_law 1642 = .ok (.iconst 0, 1) := by decide +kernel
theorem dL_law_1643 : decode cL_law 1643 = .ok (.ireturn, 1) := by decide +kernel
theorem dL_law_1644 : decode cL_law 1644 = .ok (.iload 5, 2) := by decide +kernel
theorem dL_law_1646 : decode cL_law 1646 = .ok (.ifCond .ne 15, 3) := by decide +kernel
theorem dL_law_1649 : decode cL_law 1649 = .ok (.aload_n 3, 1) := by decide +kernel
theorem dL_law_1650 : decode cL_law 1650 = .ok (.iconst 0, 1) := by decide +kernel
theorem dL_law_1651 : decode cL_law 1651 = .ok (.laload, 1) := by decide +kernel
theorem dL_law_1652 : decode cL_law 1652 = .ok (.iload 6, 2) := by decide +kernel
theorem dL_law_1654 : decode cL_law 1654 = .ok (.i2l, 1) := by decide +kernel
theorem dL_law_1655 : decode cL_law 1655 = .ok (.lcmp, 1) := by decide +kernel
theorem dL_law_1656 : decode cL_law 1656 = .ok (.ifCond .eq 5, 3) := by decide +kernel
theorem dL_law_1659 : decode cL_law 1659 = .ok (.iconst 0, 1) := by decide +kernel
theorem dL_law_1660 : decode cL_law 1660 = .ok (.ireturn, 1) := by decide +kernel
theorem dL_law_1661 : decode cL_law 1661 = .ok (.goto 352, 3) := by decide +kernel
theorem dL_law_1664 : decode cL_law 1664 = .ok (.aload_n 1, 1) := by decide +kernel
theorem dL_law_1665 : decode cL_law 1665 = .ok (.aload_n 0, 1) := by decide +kernel
theorem dL_law_1666 : decode cL_law 1666 = .ok (.iload 4, 2) := by decide +kernel
theorem dL_law_1668 : decode cL_law 1668 = .ok (.iconst 1, 1) := by decide +kernel
theorem dL_law_1669 : decode cL_law 1669 = .ok (.iadd, 1) := by decide +kernel
theorem dL_law_1670 : decode cL_law 1670 = .ok (.iaload, 1) := by decide +kernel
theorem dL_law_1671 : decode cL_law 1671 = .ok (.aload_n 0, 1) := by decide +kernel
theorem dL_law_1672 : decode cL_law 1672 = .ok (.iload 4, 2) := by decide +kernel
theorem dL_law_1674 : decode cL_law 1674 = .ok (.iconst 2, 1) := by decide +kernel
theorem dL_law_1675 : decode cL_law 1675 = .ok (.iadd, 1) := by decide +kernel
theorem dL_law_1676 : decode cL_law 1676 = .ok (.iaload, 1) := by decide +kernel
theorem dL_law_1677 : decode cL_law 1677 = .ok (.aload_n 0, 1) := by decide +kernel
theorem dL_law_1678 : decode cL_law 1678 = .ok (.iload 4, 2) := by decide +kernel
theorem dL_law_1680 : decode cL_law 1680 = .ok (.iconst 3, 1) := by decide +kernel
theorem dL_law_1681 : decode cL_law 1681 = .ok (.iadd, 1) := by decide +kernel
theorem dL_law_1682 : decode cL_law 1682 = .ok (.iaload, 1) := by decide +kernel
theorem dL_law_1683 : decode cL_law 1683 = .ok (.aload_n 3, 1) := by decide +kernel
theorem dL_law_1684 : decode cL_law 1684 = .ok (.invokestatic 200, 3) := by decide +kernel
theorem dL_law_1687 : decode cL_law 1687 = .ok (.istore 5, 2) := by decide +kernel
theorem dL_law_1689 : decode cL_law 1689 = .ok (.aload_n 2, 1) := by decide +kernel
theorem dL_law_1690 : decode cL_law 1690 = .ok (.aload_n 0, 1) := by decide +kernel
theorem dL_law_1691 : decode cL_law 1691 = .ok (.iload 4, 2) := by decide +kernel
theorem dL_law_1693 : decode cL_law 1693 = .ok (.iconst 1, 1) := by decide +kernel
theorem dL_law_1694 : decode cL_law 1694 = .ok (.iadd, 1) := by decide +kernel
theorem dL_law_1695 : decode cL_law 1695 = .ok (.iaload, 1) := by decide +kernel
theorem dL_law_1696 : decode cL_law 1696 = .ok (.aload_n 0, 1) := by decide +kernel
theorem dL_law_1697 : decode cL_law 1697 = .ok (.iload 4, 2) := by decide +kernel
theorem dL_law_1699 : decode cL_law 1699 = .ok (.iconst 2, 1) := by decide +kernel
theorem dL_law_1700 : decode cL_law 1700 = .ok (.iadd, 1) := by decide +kernel
theorem dL_law_1701 : decode cL_law 1701 = .ok (.iaload, 1) := by decide +kernel
theorem dL_law_1702 : decode cL_law 1702 = .ok (.aload_n 0, 1) := by decide +kernel
theorem dL_law_1703 : decode cL_law 1703 = .ok (.iload 4, 2) := by decide +kernel
theorem dL_law_1705 : decode cL_law 1705 = .ok (.iconst 3, 1) := by decide +kernel
theorem dL_law_1706 : decode cL_law 1706 = .ok (.iadd, 1) := by decide +kernel
theorem dL_law_1707 : decode cL_law 1707 = .ok (.iaload, 1) := by decide +kernel
theorem dL_law_1708 : decode cL_law 1708 = .ok (.invokevirtual 202, 3) := by decide +kernel
theorem dL_law_1711 : decode cL_law 1711 = .ok (.istore 6, 2) := by decide +kernel
theorem dL_law_1713 : decode cL_law 1713 = .ok (.aload_n 2, 1) := by decide +kernel
theorem dL_law_1714 : decode cL_law 1714 = .ok (.invokevirtual 121, 3) := by decide +kernel
theorem dL_law_1717 : decode cL_law 1717 = .ok (.iload 5, 2) := by decide +kernel
theorem dL_law_1719 : decode cL_law 1719 = .ok (.if_icmp .eq 5, 3) := by decide +kernel
theorem dL_law_1722 : decode cL_law 1722 = .ok (.iconst 0, 1) := by decide +kernel
theorem dL_law_1723 : decode cL_law 1723 = .ok (.ireturn, 1) := by decide +kernel
theorem dL_law_1724 : decode cL_law 1724 = .ok (.iload 5, 2) := by decide +kernel
theorem dL_law_1726 : decode cL_law 1726 = .ok (.ifCond .ne 15, 3) := by decide +kernel
theorem dL_law_1729 : decode cL_law 1729 = .ok (.aload_n 3, 1) := by decide +kernel
theorem dL_law_1730 : decode cL_law 1730 = .ok (.iconst 0, 1) := by decide +kernel
theorem dL_law_1731 : decode cL_law 1731 = .ok (.laload, 1) := by decide +kernel
theorem dL_law_1732 : decode cL_law 1732 = .ok (.iload 6, 2) := by decide +kernel
theorem dL_law_1734 : decode cL_law 1734 = .ok (.i2l, 1) := by decide +kernel
theorem dL_law_1735 : decode cL_law 1735 = .ok (.lcmp, 1) := by decide +kernel
theorem dL_law_1736 : decode cL_law 1736 = .ok (.ifCond .eq 5, 3) := by decide +kernel
theorem dL_law_1739 : decode cL_law 1739 = .ok (.iconst 0, 1) := by decide +kernel
theorem dL_law_1740 : decode cL_law 1740 = .ok (.ireturn, 1) := by decide +kernel
theorem dL_law_1741 : decode cL_law 1741 = .ok (.goto 272, 3) := by decide +kernel
theorem dL_law_1744 : decode cL_law 1744 = .ok (.aload_n 1, 1) := by decide +kernel
theorem dL_law_1745 : decode cL_law 1745 = .ok (.aload_n 0, 1) := by decide +kernel
theorem dL_law_1746 : decode cL_law 1746 = .ok (.iload 4, 2) := by decide +kernel
theorem dL_law_1748 : decode cL_law 1748 = .ok (.iconst 1, 1) := by decide +kernel
theorem dL_law_1749 : decode cL_law 1749 = .ok (.iadd, 1) := by decide +kernel
theorem dL_law_1750 : decode cL_law 1750 = .ok (.iaload, 1) := by decide +kernel
theorem dL_law_1751 : decode cL_law 1751 = .ok (.aload_n 3, 1) := by decide +kernel
theorem dL_law_1752 : decode cL_law 1752 = .ok (.invokestatic 203, 3) := by decide +kernel
theorem dL_law_1755 : decode cL_law 1755 = .ok (.istore 5, 2) := by decide +kernel
theorem dL_law_1757 : decode cL_law 1757 = .ok (.aload_n 2, 1) := by decide +kernel
theorem dL_law_1758 : decode cL_law 1758 = .ok (.aload_n 0, 1) := by decide +kernel
theorem dL_law_1759 : decode cL_law 1759 = .ok (.iload 4, 2) := by decide +kernel
theorem dL_law_1761 : decode cL_law 1761 = .ok (.iconst 1, 1) := by decide +kernel
theorem dL_law_1762 : decode cL_law 1762 = .ok (.iadd, 1) := by decide +kernel
theorem dL_law_1763 : decode cL_law 1763 = .ok (.iaload, 1) := by decide +kernel
theorem dL_law_1764 : decode cL_law 1764 = .ok (.invokevirtual 205, 3) := by decide +kernel
theorem dL_law_1767 : decode cL_law 1767 = .ok (.istore 6, 2) := by decide +kernel
theorem dL_law_1769 : decode cL_law 1769 = .ok (.aload_n 2, 1) := by decide +kernel
theorem dL_law_1770 : decode cL_law 1770 = .ok (.invokevirtual 121, 3) := by decide +kernel
theorem dL_law_1773 : decode cL_law 1773 = .ok (.iload 5, 2) := by decide +kernel
theorem dL_law_1775 : decode cL_law 1775 = .ok (.if_icmp .eq 5, 3) := by decide +kernel
theorem dL_law_1778 : decode cL_law 1778 = .ok (.iconst 0, 1) := by decide +kernel
theorem dL_law_1779 : decode cL_law 1779 = .ok (.ireturn, 1) := by decide +kernel
theorem dL_law_1780 : decode cL_law 1780 = .ok (.iload 5, 2) := by decide +kernel
theorem dL_law_1782 : decode cL_law 1782 = .ok (.ifCond .ne 15, 3) := by decide +kernel
theorem dL_law_1785 : decode cL_law 1785 = .ok (.aload_n 3, 1) := by decide +kernel
theorem dL_law_1786 : decode cL_law 1786 = .ok (.iconst 0, 1) := by decide +kernel
theorem dL_law_1787 : decode cL_law 1787 = .ok (.laload, 1) := by decide +kernel
theorem dL_law_1788 : decode cL_law 1788 = .ok (.iload 6, 2) := by decide +kernel
theorem dL_law_1790 : decode cL_law 1790 = .ok (.i2l, 1) := by decide +kernel
theorem dL_law_1791 : decode cL_law 1791 = .ok (.lcmp, 1) := by decide +kernel
theorem dL_law_1792 : decode cL_law 1792 = .ok (.ifCond .eq 5, 3) := by decide +kernel
theorem dL_law_1795 : decode cL_law 1795 = .ok (.iconst 0, 1) := by decide +kernel
theorem dL_law_1796 : decode cL_law 1796 = .ok (.ireturn, 1) := by decide +kernel
theorem dL_law_1797 : decode cL_law 1797 = .ok (.goto 216, 3) := by decide +kernel
theorem dL_law_1800 : decode cL_law 1800 = .ok (.aload_n 1, 1) := by decide +kernel
theorem dL_law_1801 : decode cL_law 1801 = .ok (.aload_n 0, 1) := by decide +kernel
theorem dL_law_1802 : decode cL_law 1802 = .ok (.iload 4, 2) := by decide +kernel
theorem dL_law_1804 : decode cL_law 1804 = .ok (.iconst 1, 1) := by decide +kernel
theorem dL_law_1805 : decode cL_law 1805 = .ok (.iadd, 1) := by decide +kernel
theorem dL_law_1806 : decode cL_law 1806 = .ok (.iaload, 1) := by decide +kernel
theorem dL_law_1807 : decode cL_law 1807 = .ok (.aload_n 3, 1) := by decide +kernel
theorem dL_law_1808 : decode cL_law 1808 = .ok (.invokestatic 206, 3) := by decide +kernel
theorem dL_law_1811 : decode cL_law 1811 = .ok (.istore 5, 2) := by decide +kernel
theorem dL_law_1813 : decode cL_law 1813 = .ok (.aload_n 2, 1) := by decide +kernel
theorem dL_law_1814 : decode cL_law 1814 = .ok (.aload_n 0, 1) := by decide +kernel
theorem dL_law_1815 : decode cL_law 1815 = .ok (.iload 4, 2) := by decide +kernel
theorem dL_law_1817 : decode cL_law 1817 = .ok (.iconst 1, 1) := by decide +kernel
theorem dL_law_1818 : decode cL_law 1818 = .ok (.iadd, 1) := by decide +kernel
theorem dL_law_1819 : decode cL_law 1819 = .ok (.iaload, 1) := by decide +kernel
theorem dL_law_1820 : decode cL_law 1820 = .ok (.invokevirtual 208, 3) := by decide +kernel
theorem dL_law_1823 : decode cL_law 1823 = .ok (.istore 6, 2) := by decide +kernel
theorem dL_law_1825 : decode cL_law 1825 = .ok (.aload_n 2, 1) := by decide +kernel
theorem dL_law_1826 : decode cL_law 1826 = .ok (.invokevirtual 121, 3) := by decide +kernel
theorem dL_law_1829 : decode cL_law 1829 = .ok (.iload 5, 2) := by decide +kernel
theorem dL_law_1831 : decode cL_law 1831 = .ok (.if_icmp .eq 5, 3) := by decide +kernel
theorem dL_law_1834 : decode cL_law 1834 = .ok (.iconst 0, 1) := by decide +kernel
theorem dL_law_1835 : decode cL_law 1835 = .ok (.ireturn, 1) := by decide +kernel
theorem dL_law_1836 : decode cL_law 1836 = .ok (.iload 5, 2) := by decide +kernel
theorem dL_law_1838 : decode cL_law 1838 = .ok (.ifCond .ne 15, 3) := by decide +kernel
theorem dL_law_1841 : decode cL_law 1841 = .ok (.aload_n 3, 1) := by decide +kernel
theorem dL_law_1842 : decode cL_law 1842 = .ok (.iconst 0, 1) := by decide +kernel
theorem dL_law_1843 : decode cL_law 1843 = .ok (.laload, 1) := by decide +kernel
theorem dL_law_1844 : decode cL_law 1844 = .ok (.iload 6, 2) := by decide +kernel
theorem dL_law_1846 : decode cL_law 1846 = .ok (.i2l, 1) := by decide +kernel
theorem dL_law_1847 : decode cL_law 1847 = .ok (.lcmp, 1) := by decide +kernel
theorem dL_law_1848 : decode cL_law 1848 = .ok (.ifCond .eq 5, 3) := by decide +kernel
theorem dL_law_1851 : decode cL_law 1851 = .ok (.iconst 0, 1) := by decide +kernel
theorem dL_law_1852 : decode cL_law 1852 = .ok (.ireturn, 1) := by decide +kernel
theorem dL_law_1853 : decode cL_law 1853 = .ok (.goto 160, 3) := by decide +kernel
theorem dL_law_1856 : decode cL_law 1856 = .ok (.aload_n 1, 1) := by decide +kernel
theorem dL_law_1857 : decode cL_law 1857 = .ok (.aload_n 0, 1) := by decide +kernel
theorem dL_law_1858 : decode cL_law 1858 = .ok (.iload 4, 2) := by decide +kernel
theorem dL_law_1860 : decode cL_law 1860 = .ok (.iconst 1, 1) := by decide +kernel
theorem dL_law_1861 : decode cL_law 1861 = .ok (.iadd, 1) := by decide +kernel
theorem dL_law_1862 : decode cL_law 1862 = .ok (.iaload, 1) := by decide +kernel
theorem dL_law_1863 : decode cL_law 1863 = .ok (.aload_n 3, 1) := by decide +kernel
theorem dL_law_1864 : decode cL_law 1864 = .ok (.invokestatic 209, 3) := by decide +kernel
theorem dL_law_1867 : decode cL_law 1867 = .ok (.istore 5, 2) := by decide +kernel
theorem dL_law_1869 : decode cL_law 1869 = .ok (.aload_n 2, 1) := by decide +kernel
theorem dL_law_1870 : decode cL_law 1870 = .ok (.aload_n 0, 1) := by decide +kernel
theorem dL_law_1871 : decode cL_law 1871 = .ok (.iload 4, 2) := by decide +kernel
theorem dL_law_1873 : decode cL_law 1873 = .ok (.iconst 1, 1) := by decide +kernel
theorem dL_law_1874 : decode cL_law 1874 = .ok (.iadd, 1) := by decide +kernel
theorem dL_law_1875 : decode cL_law 1875 = .ok (.iaload, 1) := by decide +kernel
theorem dL_law_1876 : decode cL_law 1876 = .ok (.invokevirtual 211, 3) := by decide +kernel
theorem dL_law_1879 : decode cL_law 1879 = .ok (.istore 6, 2) := by decide +kernel
theorem dL_law_1881 : decode cL_law 1881 = .ok (.aload_n 2, 1) := by decide +kernel
theorem dL_law_1882 : decode cL_law 1882 = .ok (.invokevirtual 121, 3) := by decide +kernel
theorem dL_law_1885 : decode cL_law 1885 = .ok (.iload 5, 2) := by decide +kernel
theorem dL_law_1887 : decode cL_law 1887 = .ok (.if_icmp .eq 5, 3) := by decide +kernel
theorem dL_law_1890 : decode cL_law 1890 = .ok (.iconst 0, 1) := by decide +kernel
theorem dL_law_1891 : decode cL_law 1891 = .ok (.ireturn, 1) := by decide +kernel
theorem dL_law_1892 : decode cL_law 1892 = .ok (.iload 5, 2) := by decide +kernel
theorem dL_law_1894 : decode cL_law 1894 = .ok (.ifCond .ne 22, 3) := by decide +kernel
theorem dL_law_1897 : decode cL_law 1897 = .ok (.aload_n 3, 1) := by decide +kernel
theorem dL_law_1898 : decode cL_law 1898 = .ok (.iconst 0, 1) := by decide +kernel
theorem dL_law_1899 : decode cL_law 1899 = .ok (.laload, 1) := by decide +kernel
theorem dL_law_1900 : decode cL_law 1900 = .ok (.iload 6, 2) := by decide +kernel
theorem dL_law_1902 : decode cL_law 1902 = .ok (.ifCond .eq 7, 3) := by decide +kernel
theorem dL_law_1905 : decode cL_law 1905 = .ok (.lconst 1, 1) := by decide +kernel
theorem dL_law_1906 : decode cL_law 1906 = .ok (.goto 4, 3) := by decide +kernel
theorem dL_law_1909 : decode cL_law 1909 = .ok (.lconst 0, 1) := by decide +kernel
theorem dL_law_1910 : decode cL_law 1910 = .ok (.lcmp, 1) := by decide +kernel
theorem dL_law_1911 : decode cL_law 1911 = .ok (.ifCond .eq 5, 3) := by decide +kernel
theorem dL_law_1914 : decode cL_law 1914 = .ok (.iconst 0, 1) := by decide +kernel
theorem dL_law_1915 : decode cL_law 1915 = .ok (.ireturn, 1) := by decide +kernel
theorem dL_law_1916 : decode cL_law 1916 = .ok (.goto 97, 3) := by decide +kernel
theorem dL_law_1919 : decode cL_law 1919 = .ok (.aload_n 1, 1) := by decide +kernel
theorem dL_law_1920 : decode cL_law 1920 = .ok (.invokevirtual 212, 3) := by decide +kernel
theorem dL_law_1923 : decode cL_law 1923 = .ok (.aload_n 2, 1) := by decide +kernel
theorem dL_law_1924 : decode cL_law 1924 = .ok (.invokevirtual 215, 3) := by decide +kernel
theorem dL_law_1927 : decode cL_law 1927 = .ok (.if_icmp .eq 86, 3) := by decide +kernel
theorem dL_law_1930 : decode cL_law 1930 = .ok (.iconst 0, 1) := by decide +kernel
theorem dL_law_1931 : decode cL_law 1931 = .ok (.ireturn, 1) := by decide +kernel
theorem dL_law_1932 : decode cL_law 1932 = .ok (.aload_n 1, 1) := by decide +kernel
theorem dL_law_1933 : decode cL_law 1933 = .ok (.invokevirtual 216, 3) := by decide +kernel
theorem dL_law_1936 : decode cL_law 1936 = .ok (.aload_n 2, 1) := by decide +kernel
theorem dL_law_1937 : decode cL_law 1937 = .ok (.invokevirtual 219, 3) := by decide +kernel
theorem dL_law_1940 : decode cL_law 1940 = .ok (.if_icmp .eq 73, 3) := by decide +kernel
theorem dL_law_1943 : decode cL_law 1943 = .ok (.iconst 0, 1) := by decide +kernel
theorem dL_law_1944 : decode cL_law 1944 = .ok (.ireturn, 1) := by decide +kernel
theorem dL_law_1945 : decode cL_law 1945 = .ok (.aload_n 1, 1) := by decide +kernel
theorem dL_law_1946 : decode cL_law 1946 = .ok (.aload_n 0, 1) := by decide +kernel
theorem dL_law_1947 : decode cL_law 1947 = .ok (.iload 4, 2) := by decide +kernel
theorem dL_law_1949 : decode cL_law 1949 = .ok (.iconst 1, 1) := by decide +kernel
theorem dL_law_1950 : decode cL_law 1950 = .ok (.iadd, 1) := by decide +kernel
theorem dL_law_1951 : decode cL_law 1951 = .ok (.iaload, 1) := by decide +kernel
theorem dL_law_1952 : decode cL_law 1952 = .ok (.aload_n 0, 1) := by decide +kernel
theorem dL_law_1953 : decode cL_law 1953 = .ok (.iload 4, 2) := by decide +kernel
theorem dL_law_1955 : decode cL_law 1955 = .ok (.iconst 2, 1) := by decide +kernel
theorem dL_law_1956 : decode cL_law 1956 = .ok (.iadd, 1) := by decide +kernel
theorem dL_law_1957 : decode cL_law 1957 = .ok (.iaload, 1) := by decide +kernel
theorem dL_law_1958 : decode cL_law 1958 = .ok (.aload_n 3, 1) := by decide +kernel
theorem dL_law_1959 : decode cL_law 1959 = .ok (.invokestatic 220, 3) := by decide +kernel
theorem dL_law_1962 : decode cL_law 1962 = .ok (.istore 5, 2) := by decide +kernel
theorem dL_law_1964 : decode cL_law 1964 = .ok (.aload_n 2, 1) := by decide +kernel
theorem dL_law_1965 : decode cL_law 1965 = .ok (.aload_n 0, 1) := by decide +kernel
theorem dL_law_1966 : decode cL_law 1966 = .ok (.iload 4, 2) := by decide +kernel
theorem dL_law_1968 : decode cL_law 1968 = .ok (.iconst 1, 1) := by decide +kernel
theorem dL_law_1969 : decode cL_law 1969 = .ok (.iadd, 1) := by decide +kernel
theorem dL_law_1970 : decode cL_law 1970 = .ok (.iaload, 1) := by decide +kernel
theorem dL_law_1971 : decode cL_law 1971 = .ok (.aload_n 0, 1) := by decide +kernel
theorem dL_law_1972 : decode cL_law 1972 = .ok (.iload 4, 2) := by decide +kernel
theorem dL_law_1974 : decode cL_law 1974 = .ok (.iconst 2, 1) := by decide +kernel
theorem dL_law_1975 : decode cL_law 1975 = .ok (.iadd, 1) := by decide +kernel
theorem dL_law_1976 : decode cL_law 1976 = .ok (.iaload, 1) := by decide +kernel
theorem dL_law_1977 : decode cL_law 1977 = .ok (.invokevirtual 222, 3) := by decide +kernel
theorem dL_law_1980 : decode cL_law 1980 = .ok (.istore 6, 2) := by decide +kernel
theorem dL_law_1982 : decode cL_law 1982 = .ok (.aload_n 2, 1) := by decide +kernel
theorem dL_law_1983 : decode cL_law 1983 = .ok (.invokevirtual 121, 3) := by decide +kernel
theorem dL_law_1986 : decode cL_law 1986 = .ok (.iload 5, 2) := by decide +kernel
theorem dL_law_1988 : decode cL_law 1988 = .ok (.if_icmp .eq 5, 3) := by decide +kernel
theorem dL_law_1991 : decode cL_law 1991 = .ok (.iconst 0, 1) := by decide +kernel
theorem dL_law_1992 : decode cL_law 1992 = .ok (.ireturn, 1) := by decide +kernel
theorem dL_law_1993 : decode cL_law 1993 = .ok (.iload 5, 2) := by decide +kernel
theorem dL_law_1995 : decode cL_law 1995 = .ok (.ifCond .ne 15, 3) := by decide +kernel
theorem dL_law_1998 : decode cL_law 1998 = .ok (.aload_n 3, 1) := by decide +kernel
theorem dL_law_1999 : decode cL_law 1999 = .ok (.iconst 0, 1) := by decide +kernel
theorem dL_law_2000 : decode cL_law 2000 = .ok (.laload, 1) := by decide +kernel
theorem dL_law_2001 : decode cL_law 2001 = .ok (.iload 6, 2) := by decide +kernel
theorem dL_law_2003 : decode cL_law 2003 = .ok (.i2l, 1) := by decide +kernel
theorem dL_law_2004 : decode cL_law 2004 = .ok (.lcmp, 1) := by decide +kernel
theorem dL_law_2005 : decode cL_law 2005 = .ok (.ifCond .eq 5, 3) := by decide +kernel
theorem dL_law_2008 : decode cL_law 2008 = .ok (.iconst 0, 1) := by decide +kernel
theorem dL_law_2009 : decode cL_law 2009 = .ok (.ireturn, 1) := by decide +kernel
theorem dL_law_2010 : decode cL_law 2010 = .ok (.goto 3, 3) := by decide +kernel
theorem dL_law_2013 : decode cL_law 2013 = .ok (.iinc 4 5, 3) := by decide +kernel
theorem dL_law_2016 : decode cL_law 2016 = .ok (.goto (-1993), 3) := by decide +kernel
theorem dL_law_2019 : decode cL_law 2019 = .ok (.iconst 1, 1) := by decide +kernel
theorem dL_law_2020 : decode cL_law 2020 = .ok (.ireturn, 1) := by decide +kernel
