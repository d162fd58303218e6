theorem dd_G_init_0 : decode mt_G_init.2.1 0 = .ok (.aload_n 0, 1) := by decide +kernel
theorem dd_G_init_1 : decode mt_G_init.2.1 1 = .ok (.invokespecial 3, 3) := by decide +kernel
theorem dd_G_init_4 : decode mt_G_init.2.1 4 = .ok (.aload_n 0, 1) := by decide +kernel
theorem dd_G_init_5 : decode mt_G_init.2.1 5 = .ok (.new 9, 3) := by decide +kernel
theorem dd_G_init_8 : decode mt_G_init.2.1 8 = .ok (.dup, 1) := by decide +kernel
theorem dd_G_init_9 : decode mt_G_init.2.1 9 = .ok (.bipush 8, 2) := by decide +kernel
theorem dd_G_init_11 : decode mt_G_init.2.1 11 = .ok (.invokespecial 11, 3) := by decide +kernel
theorem dd_G_init_14 : decode mt_G_init.2.1 14 = .ok (.putfield 14, 3) := by decide +kernel
theorem dd_G_init_17 : decode mt_G_init.2.1 17 = .ok (.aload_n 0, 1) := by decide +kernel
theorem dd_G_init_18 : decode mt_G_init.2.1 18 = .ok (.iconst 0, 1) := by decide +kernel
theorem dd_G_init_19 : decode mt_G_init.2.1 19 = .ok (.putfield 20, 3) := by decide +kernel
theorem dd_G_init_22 : decode mt_G_init.2.1 22 = .ok (.aload_n 0, 1) := by decide +kernel
theorem dd_G_init_23 : decode mt_G_init.2.1 23 = .ok (.iload_n 1, 1) := by decide +kernel
theorem dd_G_init_24 : decode mt_G_init.2.1 24 = .ok (.putfield 24, 3) := by decide +kernel
theorem dd_G_init_27 : decode mt_G_init.2.1 27 = .ok (.aload_n 0, 1) := by decide +kernel
theorem dd_G_init_28 : decode mt_G_init.2.1 28 = .ok (.aload_n 2, 1) := by decide +kernel
theorem dd_G_init_29 : decode mt_G_init.2.1 29 = .ok (.putfield 27, 3) := by decide +kernel
theorem dd_G_init_32 : decode mt_G_init.2.1 32 = .ok (.aload_n 0, 1) := by decide +kernel
theorem dd_G_init_33 : decode mt_G_init.2.1 33 = .ok (.aload_n 3, 1) := by decide +kernel
theorem dd_G_init_34 : decode mt_G_init.2.1 34 = .ok (.putfield 31, 3) := by decide +kernel
theorem dd_G_init_37 : decode mt_G_init.2.1 37 = .ok (.return_, 1) := by decide +kernel
theorem dd_G_isGoing_0 : decode mt_G_isGoing.2.1 0 = .ok (.aload_n 0, 1) := by decide +kernel
theorem dd_G_isGoing_1 : decode mt_G_isGoing.2.1 1 = .ok (.getfield 20, 3) := by decide +kernel
theorem dd_G_isGoing_4 : decode mt_G_isGoing.2.1 4 = .ok (.ifCond .ne 14, 3) := by decide +kernel
theorem dd_G_isGoing_7 : decode mt_G_isGoing.2.1 7 = .ok (.aload_n 0, 1) := by decide +kernel
theorem dd_G_isGoing_8 : decode mt_G_isGoing.2.1 8 = .ok (.getfield 35, 3) := by decide +kernel
theorem dd_G_isGoing_11 : decode mt_G_isGoing.2.1 11 = .ok (.ifCond .ne 7, 3) := by decide +kernel
theorem dd_G_isGoing_14 : decode mt_G_isGoing.2.1 14 = .ok (.iconst 1, 1) := by decide +kernel
theorem dd_G_isGoing_15 : decode mt_G_isGoing.2.1 15 = .ok (.goto 4, 3) := by decide +kernel
theorem dd_G_isGoing_18 : decode mt_G_isGoing.2.1 18 = .ok (.iconst 0, 1) := by decide +kernel
theorem dd_G_isGoing_19 : decode mt_G_isGoing.2.1 19 = .ok (.ireturn, 1) := by decide +kernel
theorem dd_G_startsPulling_0 : decode mt_G_startsPulling.2.1 0 = .ok (.aload_n 0, 1) := by decide +kernel
theorem dd_G_startsPulling_1 : decode mt_G_startsPulling.2.1 1 = .ok (.invokevirtual 47, 3) := by decide +kernel
theorem dd_G_startsPulling_4 : decode mt_G_startsPulling.2.1 4 = .ok (.ifCond .eq 27, 3) := by decide +kernel
theorem dd_G_startsPulling_7 : decode mt_G_startsPulling.2.1 7 = .ok (.aload_n 0, 1) := by decide +kernel
theorem dd_G_startsPulling_8 : decode mt_G_startsPulling.2.1 8 = .ok (.getfield 14, 3) := by decide +kernel
theorem dd_G_startsPulling_11 : decode mt_G_startsPulling.2.1 11 = .ok (.getfield 51, 3) := by decide +kernel
theorem dd_G_startsPulling_14 : decode mt_G_startsPulling.2.1 14 = .ok (.ifCond .gt 13, 3) := by decide +kernel
theorem dd_G_startsPulling_17 : decode mt_G_startsPulling.2.1 17 = .ok (.aload_n 0, 1) := by decide +kernel
theorem dd_G_startsPulling_18 : decode mt_G_startsPulling.2.1 18 = .ok (.getfield 27, 3) := by decide +kernel
theorem dd_G_startsPulling_21 : decode mt_G_startsPulling.2.1 21 = .ok (.getfield 54, 3) := by decide +kernel
theorem dd_G_startsPulling_24 : decode mt_G_startsPulling.2.1 24 = .ok (.ifCond .le 7, 3) := by decide +kernel
theorem dd_G_startsPulling_27 : decode mt_G_startsPulling.2.1 27 = .ok (.iconst 1, 1) := by decide +kernel
theorem dd_G_startsPulling_28 : decode mt_G_startsPulling.2.1 28 = .ok (.goto 4, 3) := by decide +kernel
theorem dd_G_startsPulling_31 : decode mt_G_startsPulling.2.1 31 = .ok (.iconst 0, 1) := by decide +kernel
theorem dd_G_startsPulling_32 : decode mt_G_startsPulling.2.1 32 = .ok (.istore_n 1, 1) := by decide +kernel
theorem dd_G_startsPulling_33 : decode mt_G_startsPulling.2.1 33 = .ok (.iload_n 1, 1) := by decide +kernel
theorem dd_G_startsPulling_34 : decode mt_G_startsPulling.2.1 34 = .ok (.ifCond .eq 17, 3) := by decide +kernel
theorem dd_G_startsPulling_37 : decode mt_G_startsPulling.2.1 37 = .ok (.aload_n 0, 1) := by decide +kernel
theorem dd_G_startsPulling_38 : decode mt_G_startsPulling.2.1 38 = .ok (.getfield 59, 3) := by decide +kernel
theorem dd_G_startsPulling_41 : decode mt_G_startsPulling.2.1 41 = .ok (.ifCond .eq 10, 3) := by decide +kernel
theorem dd_G_startsPulling_44 : decode mt_G_startsPulling.2.1 44 = .ok (.aload_n 0, 1) := by decide +kernel
theorem dd_G_startsPulling_45 : decode mt_G_startsPulling.2.1 45 = .ok (.iconst 1, 1) := by decide +kernel
theorem dd_G_startsPulling_46 : decode mt_G_startsPulling.2.1 46 = .ok (.putfield 62, 3) := by decide +kernel
theorem dd_G_startsPulling_49 : decode mt_G_startsPulling.2.1 49 = .ok (.iconst 0, 1) := by decide +kernel
theorem dd_G_startsPulling_50 : decode mt_G_startsPulling.2.1 50 = .ok (.ireturn, 1) := by decide +kernel
theorem dd_G_startsPulling_51 : decode mt_G_startsPulling.2.1 51 = .ok (.iload_n 1, 1) := by decide +kernel
theorem dd_G_startsPulling_52 : decode mt_G_startsPulling.2.1 52 = .ok (.ifCond .eq 8, 3) := by decide +kernel
theorem dd_G_startsPulling_55 : decode mt_G_startsPulling.2.1 55 = .ok (.aload_n 0, 1) := by decide +kernel
theorem dd_G_startsPulling_56 : decode mt_G_startsPulling.2.1 56 = .ok (.iconst 1, 1) := by decide +kernel
theorem dd_G_startsPulling_57 : decode mt_G_startsPulling.2.1 57 = .ok (.putfield 59, 3) := by decide +kernel
theorem dd_G_startsPulling_60 : decode mt_G_startsPulling.2.1 60 = .ok (.iload_n 1, 1) := by decide +kernel
theorem dd_G_startsPulling_61 : decode mt_G_startsPulling.2.1 61 = .ok (.ireturn, 1) := by decide +kernel
theorem dd_G_closeIfDrained_0 : decode mt_G_closeIfDrained.2.1 0 = .ok (.aload_n 0, 1) := by decide +kernel
theorem dd_G_closeIfDrained_1 : decode mt_G_closeIfDrained.2.1 1 = .ok (.getfield 35, 3) := by decide +kernel
theorem dd_G_closeIfDrained_4 : decode mt_G_closeIfDrained.2.1 4 = .ok (.ifCond .eq 18, 3) := by decide +kernel
theorem dd_G_closeIfDrained_7 : decode mt_G_closeIfDrained.2.1 7 = .ok (.aload_n 0, 1) := by decide +kernel
theorem dd_G_closeIfDrained_8 : decode mt_G_closeIfDrained.2.1 8 = .ok (.getfield 27, 3) := by decide +kernel
theorem dd_G_closeIfDrained_11 : decode mt_G_closeIfDrained.2.1 11 = .ok (.invokevirtual 65, 3) := by decide +kernel
theorem dd_G_closeIfDrained_14 : decode mt_G_closeIfDrained.2.1 14 = .ok (.ifCond .ne 8, 3) := by decide +kernel
theorem dd_G_closeIfDrained_17 : decode mt_G_closeIfDrained.2.1 17 = .ok (.aload_n 0, 1) := by decide +kernel
theorem dd_G_closeIfDrained_18 : decode mt_G_closeIfDrained.2.1 18 = .ok (.iconst 1, 1) := by decide +kernel
theorem dd_G_closeIfDrained_19 : decode mt_G_closeIfDrained.2.1 19 = .ok (.putfield 20, 3) := by decide +kernel
theorem dd_G_closeIfDrained_22 : decode mt_G_closeIfDrained.2.1 22 = .ok (.return_, 1) := by decide +kernel
theorem dd_G_answerAll_0 : decode mt_G_answerAll.2.1 0 = .ok (.aload_n 0, 1) := by decide +kernel
theorem dd_G_answerAll_1 : decode mt_G_answerAll.2.1 1 = .ok (.getfield 20, 3) := by decide +kernel
theorem dd_G_answerAll_4 : decode mt_G_answerAll.2.1 4 = .ok (.iconst 2, 1) := by decide +kernel
theorem dd_G_answerAll_5 : decode mt_G_answerAll.2.1 5 = .ok (.if_icmp .ne 8, 3) := by decide +kernel
theorem dd_G_answerAll_8 : decode mt_G_answerAll.2.1 8 = .ok (.bipush 8, 2) := by decide +kernel
theorem dd_G_answerAll_10 : decode mt_G_answerAll.2.1 10 = .ok (.goto 5, 3) := by decide +kernel
theorem dd_G_answerAll_13 : decode mt_G_answerAll.2.1 13 = .ok (.bipush 7, 2) := by decide +kernel
theorem dd_G_answerAll_15 : decode mt_G_answerAll.2.1 15 = .ok (.istore_n 1, 1) := by decide +kernel
theorem dd_G_answerAll_16 : decode mt_G_answerAll.2.1 16 = .ok (.iconst 0, 1) := by decide +kernel
theorem dd_G_answerAll_17 : decode mt_G_answerAll.2.1 17 = .ok (.istore_n 2, 1) := by decide +kernel
theorem dd_G_answerAll_18 : decode mt_G_answerAll.2.1 18 = .ok (.iload_n 2, 1) := by decide +kernel
theorem dd_G_answerAll_19 : decode mt_G_answerAll.2.1 19 = .ok (.aload_n 0, 1) := by decide +kernel
theorem dd_G_answerAll_20 : decode mt_G_answerAll.2.1 20 = .ok (.getfield 14, 3) := by decide +kernel
theorem dd_G_answerAll_23 : decode mt_G_answerAll.2.1 23 = .ok (.getfield 51, 3) := by decide +kernel
theorem dd_G_answerAll_26 : decode mt_G_answerAll.2.1 26 = .ok (.if_icmp .ge 39, 3) := by decide +kernel
theorem dd_G_answerAll_29 : decode mt_G_answerAll.2.1 29 = .ok (.aload_n 0, 1) := by decide +kernel
theorem dd_G_answerAll_30 : decode mt_G_answerAll.2.1 30 = .ok (.getfield 14, 3) := by decide +kernel
theorem dd_G_answerAll_33 : decode mt_G_answerAll.2.1 33 = .ok (.iload_n 2, 1) := by decide +kernel
theorem dd_G_answerAll_34 : decode mt_G_answerAll.2.1 34 = .ok (.invokevirtual 77, 3) := by decide +kernel
theorem dd_G_answerAll_37 : decode mt_G_answerAll.2.1 37 = .ok (.istore_n 3, 1) := by decide +kernel
theorem dd_G_answerAll_38 : decode mt_G_answerAll.2.1 38 = .ok (.iload_n 3, 1) := by decide +kernel
theorem dd_G_answerAll_39 : decode mt_G_answerAll.2.1 39 = .ok (.ifCond .eq 20, 3) := by decide +kernel
theorem dd_G_answerAll_42 : decode mt_G_answerAll.2.1 42 = .ok (.aload_n 0, 1) := by decide +kernel
theorem dd_G_answerAll_43 : decode mt_G_answerAll.2.1 43 = .ok (.getfield 31, 3) := by decide +kernel
theorem dd_G_answerAll_46 : decode mt_G_answerAll.2.1 46 = .ok (.iload_n 1, 1) := by decide +kernel
theorem dd_G_answerAll_47 : decode mt_G_answerAll.2.1 47 = .ok (.aload_n 0, 1) := by decide +kernel
theorem dd_G_answerAll_48 : decode mt_G_answerAll.2.1 48 = .ok (.getfield 24, 3) := by decide +kernel
theorem dd_G_answerAll_51 : decode mt_G_answerAll.2.1 51 = .ok (.iload_n 3, 1) := by decide +kernel
theorem dd_G_answerAll_52 : decode mt_G_answerAll.2.1 52 = .ok (.aload_n 0, 1) := by decide +kernel
theorem dd_G_answerAll_53 : decode mt_G_answerAll.2.1 53 = .ok (.getfield 71, 3) := by decide +kernel
theorem dd_G_answerAll_56 : decode mt_G_answerAll.2.1 56 = .ok (.invokevirtual 81, 3) := by decide +kernel
theorem dd_G_answerAll_59 : decode mt_G_answerAll.2.1 59 = .ok (.iinc 2 1, 3) := by decide +kernel
theorem dd_G_answerAll_62 : decode mt_G_answerAll.2.1 62 = .ok (.goto (-44), 3) := by decide +kernel
theorem dd_G_answerAll_65 : decode mt_G_answerAll.2.1 65 = .ok (.aload_n 0, 1) := by decide +kernel
theorem dd_G_answerAll_66 : decode mt_G_answerAll.2.1 66 = .ok (.getfield 14, 3) := by decide +kernel
theorem dd_G_answerAll_69 : decode mt_G_answerAll.2.1 69 = .ok (.invokevirtual 87, 3) := by decide +kernel
theorem dd_G_answerAll_72 : decode mt_G_answerAll.2.1 72 = .ok (.return_, 1) := by decide +kernel
theorem dd_G_failWith_0 : decode mt_G_failWith.2.1 0 = .ok (.aload_n 0, 1) := by decide +kernel
theorem dd_G_failWith_1 : decode mt_G_failWith.2.1 1 = .ok (.getfield 20, 3) := by decide +kernel
theorem dd_G_failWith_4 : decode mt_G_failWith.2.1 4 = .ok (.ifCond .eq 4, 3) := by decide +kernel
theorem dd_G_failWith_7 : decode mt_G_failWith.2.1 7 = .ok (.return_, 1) := by decide +kernel
theorem dd_G_failWith_8 : decode mt_G_failWith.2.1 8 = .ok (.aload_n 0, 1) := by decide +kernel
theorem dd_G_failWith_9 : decode mt_G_failWith.2.1 9 = .ok (.getfield 27, 3) := by decide +kernel
theorem dd_G_failWith_12 : decode mt_G_failWith.2.1 12 = .ok (.invokevirtual 68, 3) := by decide +kernel
theorem dd_G_failWith_15 : decode mt_G_failWith.2.1 15 = .ok (.aload_n 0, 1) := by decide +kernel
theorem dd_G_failWith_16 : decode mt_G_failWith.2.1 16 = .ok (.iconst 2, 1) := by decide +kernel
theorem dd_G_failWith_17 : decode mt_G_failWith.2.1 17 = .ok (.putfield 20, 3) := by decide +kernel
theorem dd_G_failWith_20 : decode mt_G_failWith.2.1 20 = .ok (.aload_n 0, 1) := by decide +kernel
theorem dd_G_failWith_21 : decode mt_G_failWith.2.1 21 = .ok (.iload_n 1, 1) := by decide +kernel
theorem dd_G_failWith_22 : decode mt_G_failWith.2.1 22 = .ok (.putfield 71, 3) := by decide +kernel
theorem dd_G_failWith_25 : decode mt_G_failWith.2.1 25 = .ok (.aload_n 0, 1) := by decide +kernel
theorem dd_G_failWith_26 : decode mt_G_failWith.2.1 26 = .ok (.invokevirtual 74, 3) := by decide +kernel
theorem dd_G_failWith_29 : decode mt_G_failWith.2.1 29 = .ok (.return_, 1) := by decide +kernel
theorem dd_G_heldBy_0 : decode mt_G_heldBy.2.1 0 = .ok (.aload_n 0, 1) := by decide +kernel
theorem dd_G_heldBy_1 : decode mt_G_heldBy.2.1 1 = .ok (.getfield 39, 3) := by decide +kernel
theorem dd_G_heldBy_4 : decode mt_G_heldBy.2.1 4 = .ok (.ifnull 5, 3) := by decide +kernel
theorem dd_G_heldBy_7 : decode mt_G_heldBy.2.1 7 = .ok (.iconst 2, 1) := by decide +kernel
theorem dd_G_heldBy_8 : decode mt_G_heldBy.2.1 8 = .ok (.ireturn, 1) := by decide +kernel
theorem dd_G_heldBy_9 : decode mt_G_heldBy.2.1 9 = .ok (.aload_n 0, 1) := by decide +kernel
theorem dd_G_heldBy_10 : decode mt_G_heldBy.2.1 10 = .ok (.getfield 43, 3) := by decide +kernel
theorem dd_G_heldBy_13 : decode mt_G_heldBy.2.1 13 = .ok (.ifnull 7, 3) := by decide +kernel
theorem dd_G_heldBy_16 : decode mt_G_heldBy.2.1 16 = .ok (.iconst 1, 1) := by decide +kernel
theorem dd_G_heldBy_17 : decode mt_G_heldBy.2.1 17 = .ok (.goto 4, 3) := by decide +kernel
theorem dd_G_heldBy_20 : decode mt_G_heldBy.2.1 20 = .ok (.iconst 0, 1) := by decide +kernel
theorem dd_G_heldBy_21 : decode mt_G_heldBy.2.1 21 = .ok (.ireturn, 1) := by decide +kernel
theorem dd_A_isGivenUp_0 : decode mt_A_isGivenUp.2.1 0 = .ok (.aload_n 0, 1) := by decide +kernel
theorem dd_A_isGivenUp_1 : decode mt_A_isGivenUp.2.1 1 = .ok (.getfield 15, 3) := by decide +kernel
theorem dd_A_isGivenUp_4 : decode mt_A_isGivenUp.2.1 4 = .ok (.astore_n 1, 1) := by decide +kernel
theorem dd_A_isGivenUp_5 : decode mt_A_isGivenUp.2.1 5 = .ok (.aload_n 1, 1) := by decide +kernel
theorem dd_A_isGivenUp_6 : decode mt_A_isGivenUp.2.1 6 = .ok (.arraylength, 1) := by decide +kernel
theorem dd_A_isGivenUp_7 : decode mt_A_isGivenUp.2.1 7 = .ok (.istore_n 2, 1) := by decide +kernel
theorem dd_A_isGivenUp_8 : decode mt_A_isGivenUp.2.1 8 = .ok (.iconst 0, 1) := by decide +kernel
theorem dd_A_isGivenUp_9 : decode mt_A_isGivenUp.2.1 9 = .ok (.istore_n 3, 1) := by decide +kernel
theorem dd_A_isGivenUp_10 : decode mt_A_isGivenUp.2.1 10 = .ok (.iload_n 3, 1) := by decide +kernel
theorem dd_A_isGivenUp_11 : decode mt_A_isGivenUp.2.1 11 = .ok (.iload_n 2, 1) := by decide +kernel
theorem dd_A_isGivenUp_12 : decode mt_A_isGivenUp.2.1 12 = .ok (.if_icmp .ge 24, 3) := by decide +kernel
theorem dd_A_isGivenUp_15 : decode mt_A_isGivenUp.2.1 15 = .ok (.aload_n 1, 1) := by decide +kernel
theorem dd_A_isGivenUp_16 : decode mt_A_isGivenUp.2.1 16 = .ok (.iload_n 3, 1) := by decide +kernel
theorem dd_A_isGivenUp_17 : decode mt_A_isGivenUp.2.1 17 = .ok (.aaload, 1) := by decide +kernel
theorem dd_A_isGivenUp_18 : decode mt_A_isGivenUp.2.1 18 = .ok (.astore 4, 2) := by decide +kernel
theorem dd_A_isGivenUp_20 : decode mt_A_isGivenUp.2.1 20 = .ok (.aload 4, 2) := by decide +kernel
theorem dd_A_isGivenUp_22 : decode mt_A_isGivenUp.2.1 22 = .ok (.getfield 19, 3) := by decide +kernel
theorem dd_A_isGivenUp_25 : decode mt_A_isGivenUp.2.1 25 = .ok (.ifCond .ne 5, 3) := by decide +kernel
theorem dd_A_isGivenUp_28 : decode mt_A_isGivenUp.2.1 28 = .ok (.iconst 0, 1) := by decide +kernel
theorem dd_A_isGivenUp_29 : decode mt_A_isGivenUp.2.1 29 = .ok (.ireturn, 1) := by decide +kernel
theorem dd_A_isGivenUp_30 : decode mt_A_isGivenUp.2.1 30 = .ok (.iinc 3 1, 3) := by decide +kernel
theorem dd_A_isGivenUp_33 : decode mt_A_isGivenUp.2.1 33 = .ok (.goto (-23), 3) := by decide +kernel
theorem dd_A_isGivenUp_36 : decode mt_A_isGivenUp.2.1 36 = .ok (.iconst 1, 1) := by decide +kernel
theorem dd_A_isGivenUp_37 : decode mt_A_isGivenUp.2.1 37 = .ok (.ireturn, 1) := by decide +kernel
theorem dd_P_init_0 : decode mt_P_init.2.1 0 = .ok (.aload_n 0, 1) := by decide +kernel
theorem dd_P_init_1 : decode mt_P_init.2.1 1 = .ok (.invokespecial 3, 3) := by decide +kernel
theorem dd_P_init_4 : decode mt_P_init.2.1 4 = .ok (.aload_n 0, 1) := by decide +kernel
theorem dd_P_init_5 : decode mt_P_init.2.1 5 = .ok (.iload_n 1, 1) := by decide +kernel
theorem dd_P_init_6 : decode mt_P_init.2.1 6 = .ok (.putfield 9, 3) := by decide +kernel
theorem dd_P_init_9 : decode mt_P_init.2.1 9 = .ok (.aload_n 0, 1) := by decide +kernel
theorem dd_P_init_10 : decode mt_P_init.2.1 10 = .ok (.aload_n 2, 1) := by decide +kernel
theorem dd_P_init_11 : decode mt_P_init.2.1 11 = .ok (.putfield 15, 3) := by decide +kernel
theorem dd_P_init_14 : decode mt_P_init.2.1 14 = .ok (.aload_n 0, 1) := by decide +kernel
theorem dd_P_init_15 : decode mt_P_init.2.1 15 = .ok (.aload_n 3, 1) := by decide +kernel
theorem dd_P_init_16 : decode mt_P_init.2.1 16 = .ok (.putfield 19, 3) := by decide +kernel
theorem dd_P_init_19 : decode mt_P_init.2.1 19 = .ok (.aload_n 0, 1) := by decide +kernel
theorem dd_P_init_20 : decode mt_P_init.2.1 20 = .ok (.iload 4, 2) := by decide +kernel
theorem dd_P_init_22 : decode mt_P_init.2.1 22 = .ok (.iconst 1, 1) := by decide +kernel
theorem dd_P_init_23 : decode mt_P_init.2.1 23 = .ok (.iand, 1) := by decide +kernel
theorem dd_P_init_24 : decode mt_P_init.2.1 24 = .ok (.ifCond .eq 7, 3) := by decide +kernel
theorem dd_P_init_27 : decode mt_P_init.2.1 27 = .ok (.iconst 1, 1) := by decide +kernel
theorem dd_P_init_28 : decode mt_P_init.2.1 28 = .ok (.goto 4, 3) := by decide +kernel
theorem dd_P_init_31 : decode mt_P_init.2.1 31 = .ok (.iconst 0, 1) := by decide +kernel
theorem dd_P_init_32 : decode mt_P_init.2.1 32 = .ok (.putfield 23, 3) := by decide +kernel
theorem dd_P_init_35 : decode mt_P_init.2.1 35 = .ok (.aload_n 0, 1) := by decide +kernel
theorem dd_P_init_36 : decode mt_P_init.2.1 36 = .ok (.iload 4, 2) := by decide +kernel
theorem dd_P_init_38 : decode mt_P_init.2.1 38 = .ok (.iconst 2, 1) := by decide +kernel
theorem dd_P_init_39 : decode mt_P_init.2.1 39 = .ok (.iand, 1) := by decide +kernel
theorem dd_P_init_40 : decode mt_P_init.2.1 40 = .ok (.ifCond .eq 7, 3) := by decide +kernel
theorem dd_P_init_43 : decode mt_P_init.2.1 43 = .ok (.iconst 1, 1) := by decide +kernel
theorem dd_P_init_44 : decode mt_P_init.2.1 44 = .ok (.goto 4, 3) := by decide +kernel
theorem dd_P_init_47 : decode mt_P_init.2.1 47 = .ok (.iconst 0, 1) := by decide +kernel
theorem dd_P_init_48 : decode mt_P_init.2.1 48 = .ok (.putfield 27, 3) := by decide +kernel
theorem dd_P_init_51 : decode mt_P_init.2.1 51 = .ok (.aload_n 0, 1) := by decide +kernel
theorem dd_P_init_52 : decode mt_P_init.2.1 52 = .ok (.iload 4, 2) := by decide +kernel
theorem dd_P_init_54 : decode mt_P_init.2.1 54 = .ok (.iconst 4, 1) := by decide +kernel
theorem dd_P_init_55 : decode mt_P_init.2.1 55 = .ok (.iand, 1) := by decide +kernel
theorem dd_P_init_56 : decode mt_P_init.2.1 56 = .ok (.ifCond .eq 7, 3) := by decide +kernel
theorem dd_P_init_59 : decode mt_P_init.2.1 59 = .ok (.iconst 1, 1) := by decide +kernel
theorem dd_P_init_60 : decode mt_P_init.2.1 60 = .ok (.goto 4, 3) := by decide +kernel
theorem dd_P_init_63 : decode mt_P_init.2.1 63 = .ok (.iconst 0, 1) := by decide +kernel
theorem dd_P_init_64 : decode mt_P_init.2.1 64 = .ok (.putfield 30, 3) := by decide +kernel
theorem dd_P_init_67 : decode mt_P_init.2.1 67 = .ok (.return_, 1) := by decide +kernel
theorem dd_A_init_0 : decode mt_A_init.2.1 0 = .ok (.aload_n 0, 1) := by decide +kernel
theorem dd_A_init_1 : decode mt_A_init.2.1 1 = .ok (.invokespecial 1, 3) := by decide +kernel
theorem dd_A_init_4 : decode mt_A_init.2.1 4 = .ok (.aload_n 0, 1) := by decide +kernel
theorem dd_A_init_5 : decode mt_A_init.2.1 5 = .ok (.aload_n 1, 1) := by decide +kernel
theorem dd_A_init_6 : decode mt_A_init.2.1 6 = .ok (.putfield 7, 3) := by decide +kernel
theorem dd_A_init_9 : decode mt_A_init.2.1 9 = .ok (.aload_n 0, 1) := by decide +kernel
theorem dd_A_init_10 : decode mt_A_init.2.1 10 = .ok (.iconst 2, 1) := by decide +kernel
theorem dd_A_init_11 : decode mt_A_init.2.1 11 = .ok (.anewarray 13, 3) := by decide +kernel
theorem dd_A_init_14 : decode mt_A_init.2.1 14 = .ok (.dup, 1) := by decide +kernel
theorem dd_A_init_15 : decode mt_A_init.2.1 15 = .ok (.iconst 0, 1) := by decide +kernel
theorem dd_A_init_16 : decode mt_A_init.2.1 16 = .ok (.aload_n 2, 1) := by decide +kernel
theorem dd_A_init_17 : decode mt_A_init.2.1 17 = .ok (.aastore, 1) := by decide +kernel
theorem dd_A_init_18 : decode mt_A_init.2.1 18 = .ok (.dup, 1) := by decide +kernel
theorem dd_A_init_19 : decode mt_A_init.2.1 19 = .ok (.iconst 1, 1) := by decide +kernel
theorem dd_A_init_20 : decode mt_A_init.2.1 20 = .ok (.aload_n 3, 1) := by decide +kernel
theorem dd_A_init_21 : decode mt_A_init.2.1 21 = .ok (.aastore, 1) := by decide +kernel
theorem dd_A_init_22 : decode mt_A_init.2.1 22 = .ok (.putfield 15, 3) := by decide +kernel
theorem dd_A_init_25 : decode mt_A_init.2.1 25 = .ok (.return_, 1) := by decide +kernel
theorem dd_P_letGo_0 : decode mt_P_letGo.2.1 0 = .ok (.aload_n 0, 1) := by decide +kernel
theorem dd_P_letGo_1 : decode mt_P_letGo.2.1 1 = .ok (.iconst 1, 1) := by decide +kernel
theorem dd_P_letGo_2 : decode mt_P_letGo.2.1 2 = .ok (.putfield 58, 3) := by decide +kernel
theorem dd_P_letGo_5 : decode mt_P_letGo.2.1 5 = .ok (.aload_n 0, 1) := by decide +kernel
theorem dd_P_letGo_6 : decode mt_P_letGo.2.1 6 = .ok (.getfield 15, 3) := by decide +kernel
theorem dd_P_letGo_9 : decode mt_P_letGo.2.1 9 = .ok (.getfield 33, 3) := by decide +kernel
theorem dd_P_letGo_12 : decode mt_P_letGo.2.1 12 = .ok (.invokevirtual 61, 3) := by decide +kernel
theorem dd_P_letGo_15 : decode mt_P_letGo.2.1 15 = .ok (.aload_n 0, 1) := by decide +kernel
theorem dd_P_letGo_16 : decode mt_P_letGo.2.1 16 = .ok (.getfield 15, 3) := by decide +kernel
theorem dd_P_letGo_19 : decode mt_P_letGo.2.1 19 = .ok (.aconst_null, 1) := by decide +kernel
theorem dd_P_letGo_20 : decode mt_P_letGo.2.1 20 = .ok (.putfield 64, 3) := by decide +kernel
theorem dd_P_letGo_23 : decode mt_P_letGo.2.1 23 = .ok (.aload_n 0, 1) := by decide +kernel
theorem dd_P_letGo_24 : decode mt_P_letGo.2.1 24 = .ok (.getfield 19, 3) := by decide +kernel
theorem dd_P_letGo_27 : decode mt_P_letGo.2.1 27 = .ok (.iconst 0, 1) := by decide +kernel
theorem dd_P_letGo_28 : decode mt_P_letGo.2.1 28 = .ok (.putfield 68, 3) := by decide +kernel
theorem dd_P_letGo_31 : decode mt_P_letGo.2.1 31 = .ok (.return_, 1) := by decide +kernel
theorem dd_P_mustWait_0 : decode mt_P_mustWait.2.1 0 = .ok (.aload_n 0, 1) := by decide +kernel
theorem dd_P_mustWait_1 : decode mt_P_mustWait.2.1 1 = .ok (.getfield 15, 3) := by decide +kernel
theorem dd_P_mustWait_4 : decode mt_P_mustWait.2.1 4 = .ok (.getfield 33, 3) := by decide +kernel
theorem dd_P_mustWait_7 : decode mt_P_mustWait.2.1 7 = .ok (.getfield 39, 3) := by decide +kernel
theorem dd_P_mustWait_10 : decode mt_P_mustWait.2.1 10 = .ok (.ifCond .gt 31, 3) := by decide +kernel
theorem dd_P_mustWait_13 : decode mt_P_mustWait.2.1 13 = .ok (.aload_n 0, 1) := by decide +kernel
theorem dd_P_mustWait_14 : decode mt_P_mustWait.2.1 14 = .ok (.getfield 19, 3) := by decide +kernel
theorem dd_P_mustWait_17 : decode mt_P_mustWait.2.1 17 = .ok (.getfield 44, 3) := by decide +kernel
theorem dd_P_mustWait_20 : decode mt_P_mustWait.2.1 20 = .ok (.getfield 50, 3) := by decide +kernel
theorem dd_P_mustWait_23 : decode mt_P_mustWait.2.1 23 = .ok (.ifCond .le 18, 3) := by decide +kernel
theorem dd_P_mustWait_26 : decode mt_P_mustWait.2.1 26 = .ok (.aload_n 0, 1) := by decide +kernel
theorem dd_P_mustWait_27 : decode mt_P_mustWait.2.1 27 = .ok (.getfield 19, 3) := by decide +kernel
theorem dd_P_mustWait_30 : decode mt_P_mustWait.2.1 30 = .ok (.getfield 44, 3) := by decide +kernel
theorem dd_P_mustWait_33 : decode mt_P_mustWait.2.1 33 = .ok (.invokevirtual 55, 3) := by decide +kernel
theorem dd_P_mustWait_36 : decode mt_P_mustWait.2.1 36 = .ok (.bipush 16, 2) := by decide +kernel
theorem dd_P_mustWait_38 : decode mt_P_mustWait.2.1 38 = .ok (.if_icmp .lt 7, 3) := by decide +kernel
theorem dd_P_mustWait_41 : decode mt_P_mustWait.2.1 41 = .ok (.iconst 1, 1) := by decide +kernel
theorem dd_P_mustWait_42 : decode mt_P_mustWait.2.1 42 = .ok (.goto 4, 3) := by decide +kernel
theorem dd_P_mustWait_45 : decode mt_P_mustWait.2.1 45 = .ok (.iconst 0, 1) := by decide +kernel
theorem dd_P_mustWait_46 : decode mt_P_mustWait.2.1 46 = .ok (.ireturn, 1) := by decide +kernel
