theorem dd_T_init_0 : decode mt_T_init.2.1 0 = .ok (.aload_n 0, 1) := by decide +kernel
theorem dd_T_init_1 : decode mt_T_init.2.1 1 = .ok (.invokespecial 3, 3) := by decide +kernel
theorem dd_T_init_4 : decode mt_T_init.2.1 4 = .ok (.aload_n 0, 1) := by decide +kernel
theorem dd_T_init_5 : decode mt_T_init.2.1 5 = .ok (.new 9, 3) := by decide +kernel
theorem dd_T_init_8 : decode mt_T_init.2.1 8 = .ok (.dup, 1) := by decide +kernel
theorem dd_T_init_9 : decode mt_T_init.2.1 9 = .ok (.bipush 16, 2) := by decide +kernel
theorem dd_T_init_11 : decode mt_T_init.2.1 11 = .ok (.invokespecial 11, 3) := by decide +kernel
theorem dd_T_init_14 : decode mt_T_init.2.1 14 = .ok (.putfield 14, 3) := by decide +kernel
theorem dd_T_init_17 : decode mt_T_init.2.1 17 = .ok (.aload_n 0, 1) := by decide +kernel
theorem dd_T_init_18 : decode mt_T_init.2.1 18 = .ok (.iconst 0, 1) := by decide +kernel
theorem dd_T_init_19 : decode mt_T_init.2.1 19 = .ok (.putfield 20, 3) := by decide +kernel
theorem dd_T_init_22 : decode mt_T_init.2.1 22 = .ok (.aload_n 0, 1) := by decide +kernel
theorem dd_T_init_23 : decode mt_T_init.2.1 23 = .ok (.iconst 0, 1) := by decide +kernel
theorem dd_T_init_24 : decode mt_T_init.2.1 24 = .ok (.putfield 24, 3) := by decide +kernel
theorem dd_T_init_27 : decode mt_T_init.2.1 27 = .ok (.aload_n 0, 1) := by decide +kernel
theorem dd_T_init_28 : decode mt_T_init.2.1 28 = .ok (.iload_n 1, 1) := by decide +kernel
theorem dd_T_init_29 : decode mt_T_init.2.1 29 = .ok (.putfield 27, 3) := by decide +kernel
theorem dd_T_init_32 : decode mt_T_init.2.1 32 = .ok (.aload_n 0, 1) := by decide +kernel
theorem dd_T_init_33 : decode mt_T_init.2.1 33 = .ok (.aload_n 2, 1) := by decide +kernel
theorem dd_T_init_34 : decode mt_T_init.2.1 34 = .ok (.putfield 30, 3) := by decide +kernel
theorem dd_T_init_37 : decode mt_T_init.2.1 37 = .ok (.aload_n 0, 1) := by decide +kernel
theorem dd_T_init_38 : decode mt_T_init.2.1 38 = .ok (.aload_n 3, 1) := by decide +kernel
theorem dd_T_init_39 : decode mt_T_init.2.1 39 = .ok (.putfield 34, 3) := by decide +kernel
theorem dd_T_init_42 : decode mt_T_init.2.1 42 = .ok (.return_, 1) := by decide +kernel
theorem dd_T_hasError_0 : decode mt_T_hasError.2.1 0 = .ok (.aload_n 0, 1) := by decide +kernel
theorem dd_T_hasError_1 : decode mt_T_hasError.2.1 1 = .ok (.getfield 20, 3) := by decide +kernel
theorem dd_T_hasError_4 : decode mt_T_hasError.2.1 4 = .ok (.iconst 1, 1) := by decide +kernel
theorem dd_T_hasError_5 : decode mt_T_hasError.2.1 5 = .ok (.if_icmp .eq 11, 3) := by decide +kernel
theorem dd_T_hasError_8 : decode mt_T_hasError.2.1 8 = .ok (.aload_n 0, 1) := by decide +kernel
theorem dd_T_hasError_9 : decode mt_T_hasError.2.1 9 = .ok (.getfield 20, 3) := by decide +kernel
theorem dd_T_hasError_12 : decode mt_T_hasError.2.1 12 = .ok (.iconst 2, 1) := by decide +kernel
theorem dd_T_hasError_13 : decode mt_T_hasError.2.1 13 = .ok (.if_icmp .ne 7, 3) := by decide +kernel
theorem dd_T_hasError_16 : decode mt_T_hasError.2.1 16 = .ok (.iconst 1, 1) := by decide +kernel
theorem dd_T_hasError_17 : decode mt_T_hasError.2.1 17 = .ok (.goto 4, 3) := by decide +kernel
theorem dd_T_hasError_20 : decode mt_T_hasError.2.1 20 = .ok (.iconst 0, 1) := by decide +kernel
theorem dd_T_hasError_21 : decode mt_T_hasError.2.1 21 = .ok (.ireturn, 1) := by decide +kernel
theorem dd_T_isShutOrToBe_0 : decode mt_T_isShutOrToBe.2.1 0 = .ok (.aload_n 0, 1) := by decide +kernel
theorem dd_T_isShutOrToBe_1 : decode mt_T_isShutOrToBe.2.1 1 = .ok (.getfield 38, 3) := by decide +kernel
theorem dd_T_isShutOrToBe_4 : decode mt_T_isShutOrToBe.2.1 4 = .ok (.ifCond .ne 19, 3) := by decide +kernel
theorem dd_T_isShutOrToBe_7 : decode mt_T_isShutOrToBe.2.1 7 = .ok (.aload_n 0, 1) := by decide +kernel
theorem dd_T_isShutOrToBe_8 : decode mt_T_isShutOrToBe.2.1 8 = .ok (.getfield 24, 3) := by decide +kernel
theorem dd_T_isShutOrToBe_11 : decode mt_T_isShutOrToBe.2.1 11 = .ok (.iconst 4, 1) := by decide +kernel
theorem dd_T_isShutOrToBe_12 : decode mt_T_isShutOrToBe.2.1 12 = .ok (.if_icmp .eq 11, 3) := by decide +kernel
theorem dd_T_isShutOrToBe_15 : decode mt_T_isShutOrToBe.2.1 15 = .ok (.aload_n 0, 1) := by decide +kernel
theorem dd_T_isShutOrToBe_16 : decode mt_T_isShutOrToBe.2.1 16 = .ok (.getfield 20, 3) := by decide +kernel
theorem dd_T_isShutOrToBe_19 : decode mt_T_isShutOrToBe.2.1 19 = .ok (.iconst 3, 1) := by decide +kernel
theorem dd_T_isShutOrToBe_20 : decode mt_T_isShutOrToBe.2.1 20 = .ok (.if_icmp .ne 7, 3) := by decide +kernel
theorem dd_T_isShutOrToBe_23 : decode mt_T_isShutOrToBe.2.1 23 = .ok (.iconst 1, 1) := by decide +kernel
theorem dd_T_isShutOrToBe_24 : decode mt_T_isShutOrToBe.2.1 24 = .ok (.goto 4, 3) := by decide +kernel
theorem dd_T_isShutOrToBe_27 : decode mt_T_isShutOrToBe.2.1 27 = .ok (.iconst 0, 1) := by decide +kernel
theorem dd_T_isShutOrToBe_28 : decode mt_T_isShutOrToBe.2.1 28 = .ok (.ireturn, 1) := by decide +kernel
theorem dd_T_startNext_0 : decode mt_T_startNext.2.1 0 = .ok (.aload_n 0, 1) := by decide +kernel
theorem dd_T_startNext_1 : decode mt_T_startNext.2.1 1 = .ok (.getfield 24, 3) := by decide +kernel
theorem dd_T_startNext_4 : decode mt_T_startNext.2.1 4 = .ok (.ifCond .ne 10, 3) := by decide +kernel
theorem dd_T_startNext_7 : decode mt_T_startNext.2.1 7 = .ok (.aload_n 0, 1) := by decide +kernel
theorem dd_T_startNext_8 : decode mt_T_startNext.2.1 8 = .ok (.getfield 20, 3) := by decide +kernel
theorem dd_T_startNext_11 : decode mt_T_startNext.2.1 11 = .ok (.ifCond .eq 4, 3) := by decide +kernel
theorem dd_T_startNext_14 : decode mt_T_startNext.2.1 14 = .ok (.return_, 1) := by decide +kernel
theorem dd_T_startNext_15 : decode mt_T_startNext.2.1 15 = .ok (.aload_n 0, 1) := by decide +kernel
theorem dd_T_startNext_16 : decode mt_T_startNext.2.1 16 = .ok (.getfield 30, 3) := by decide +kernel
theorem dd_T_startNext_19 : decode mt_T_startNext.2.1 19 = .ok (.invokevirtual 108, 3) := by decide +kernel
theorem dd_T_startNext_22 : decode mt_T_startNext.2.1 22 = .ok (.ifCond .le 35, 3) := by decide +kernel
theorem dd_T_startNext_25 : decode mt_T_startNext.2.1 25 = .ok (.aload_n 0, 1) := by decide +kernel
theorem dd_T_startNext_26 : decode mt_T_startNext.2.1 26 = .ok (.iconst 3, 1) := by decide +kernel
theorem dd_T_startNext_27 : decode mt_T_startNext.2.1 27 = .ok (.putfield 24, 3) := by decide +kernel
theorem dd_T_startNext_30 : decode mt_T_startNext.2.1 30 = .ok (.aload_n 0, 1) := by decide +kernel
theorem dd_T_startNext_31 : decode mt_T_startNext.2.1 31 = .ok (.getfield 34, 3) := by decide +kernel
theorem dd_T_startNext_34 : decode mt_T_startNext.2.1 34 = .ok (.iconst 3, 1) := by decide +kernel
theorem dd_T_startNext_35 : decode mt_T_startNext.2.1 35 = .ok (.aload_n 0, 1) := by decide +kernel
theorem dd_T_startNext_36 : decode mt_T_startNext.2.1 36 = .ok (.getfield 27, 3) := by decide +kernel
theorem dd_T_startNext_39 : decode mt_T_startNext.2.1 39 = .ok (.aload_n 0, 1) := by decide +kernel
theorem dd_T_startNext_40 : decode mt_T_startNext.2.1 40 = .ok (.getfield 30, 3) := by decide +kernel
theorem dd_T_startNext_43 : decode mt_T_startNext.2.1 43 = .ok (.getfield 111, 3) := by decide +kernel
theorem dd_T_startNext_46 : decode mt_T_startNext.2.1 46 = .ok (.iconst 0, 1) := by decide +kernel
theorem dd_T_startNext_47 : decode mt_T_startNext.2.1 47 = .ok (.invokevirtual 114, 3) := by decide +kernel
theorem dd_T_startNext_50 : decode mt_T_startNext.2.1 50 = .ok (.iconst 0, 1) := by decide +kernel
theorem dd_T_startNext_51 : decode mt_T_startNext.2.1 51 = .ok (.invokevirtual 55, 3) := by decide +kernel
theorem dd_T_startNext_54 : decode mt_T_startNext.2.1 54 = .ok (.goto 34, 3) := by decide +kernel
theorem dd_T_startNext_57 : decode mt_T_startNext.2.1 57 = .ok (.aload_n 0, 1) := by decide +kernel
theorem dd_T_startNext_58 : decode mt_T_startNext.2.1 58 = .ok (.getfield 38, 3) := by decide +kernel
theorem dd_T_startNext_61 : decode mt_T_startNext.2.1 61 = .ok (.ifCond .eq 27, 3) := by decide +kernel
theorem dd_T_startNext_64 : decode mt_T_startNext.2.1 64 = .ok (.aload_n 0, 1) := by decide +kernel
theorem dd_T_startNext_65 : decode mt_T_startNext.2.1 65 = .ok (.iconst 0, 1) := by decide +kernel
theorem dd_T_startNext_66 : decode mt_T_startNext.2.1 66 = .ok (.putfield 38, 3) := by decide +kernel
theorem dd_T_startNext_69 : decode mt_T_startNext.2.1 69 = .ok (.aload_n 0, 1) := by decide +kernel
theorem dd_T_startNext_70 : decode mt_T_startNext.2.1 70 = .ok (.iconst 4, 1) := by decide +kernel
theorem dd_T_startNext_71 : decode mt_T_startNext.2.1 71 = .ok (.putfield 24, 3) := by decide +kernel
theorem dd_T_startNext_74 : decode mt_T_startNext.2.1 74 = .ok (.aload_n 0, 1) := by decide +kernel
theorem dd_T_startNext_75 : decode mt_T_startNext.2.1 75 = .ok (.getfield 34, 3) := by decide +kernel
theorem dd_T_startNext_78 : decode mt_T_startNext.2.1 78 = .ok (.iconst 4, 1) := by decide +kernel
theorem dd_T_startNext_79 : decode mt_T_startNext.2.1 79 = .ok (.aload_n 0, 1) := by decide +kernel
theorem dd_T_startNext_80 : decode mt_T_startNext.2.1 80 = .ok (.getfield 27, 3) := by decide +kernel
theorem dd_T_startNext_83 : decode mt_T_startNext.2.1 83 = .ok (.iconst 0, 1) := by decide +kernel
theorem dd_T_startNext_84 : decode mt_T_startNext.2.1 84 = .ok (.iconst 0, 1) := by decide +kernel
theorem dd_T_startNext_85 : decode mt_T_startNext.2.1 85 = .ok (.invokevirtual 55, 3) := by decide +kernel
theorem dd_T_startNext_88 : decode mt_T_startNext.2.1 88 = .ok (.return_, 1) := by decide +kernel
theorem dd_T_accept_0 : decode mt_T_accept.2.1 0 = .ok (.aload_n 0, 1) := by decide +kernel
theorem dd_T_accept_1 : decode mt_T_accept.2.1 1 = .ok (.dup, 1) := by decide +kernel
theorem dd_T_accept_2 : decode mt_T_accept.2.1 2 = .ok (.getfield 46, 3) := by decide +kernel
theorem dd_T_accept_5 : decode mt_T_accept.2.1 5 = .ok (.iconst 1, 1) := by decide +kernel
theorem dd_T_accept_6 : decode mt_T_accept.2.1 6 = .ok (.iadd, 1) := by decide +kernel
theorem dd_T_accept_7 : decode mt_T_accept.2.1 7 = .ok (.putfield 46, 3) := by decide +kernel
theorem dd_T_accept_10 : decode mt_T_accept.2.1 10 = .ok (.aload_n 0, 1) := by decide +kernel
theorem dd_T_accept_11 : decode mt_T_accept.2.1 11 = .ok (.invokevirtual 49, 3) := by decide +kernel
theorem dd_T_accept_14 : decode mt_T_accept.2.1 14 = .ok (.ifCond .eq 27, 3) := by decide +kernel
theorem dd_T_accept_17 : decode mt_T_accept.2.1 17 = .ok (.aload_n 0, 1) := by decide +kernel
theorem dd_T_accept_18 : decode mt_T_accept.2.1 18 = .ok (.getfield 34, 3) := by decide +kernel
theorem dd_T_accept_21 : decode mt_T_accept.2.1 21 = .ok (.bipush 10, 2) := by decide +kernel
theorem dd_T_accept_23 : decode mt_T_accept.2.1 23 = .ok (.aload_n 0, 1) := by decide +kernel
theorem dd_T_accept_24 : decode mt_T_accept.2.1 24 = .ok (.getfield 27, 3) := by decide +kernel
theorem dd_T_accept_27 : decode mt_T_accept.2.1 27 = .ok (.aload_n 0, 1) := by decide +kernel
theorem dd_T_accept_28 : decode mt_T_accept.2.1 28 = .ok (.getfield 46, 3) := by decide +kernel
theorem dd_T_accept_31 : decode mt_T_accept.2.1 31 = .ok (.aload_n 0, 1) := by decide +kernel
theorem dd_T_accept_32 : decode mt_T_accept.2.1 32 = .ok (.getfield 52, 3) := by decide +kernel
theorem dd_T_accept_35 : decode mt_T_accept.2.1 35 = .ok (.invokevirtual 55, 3) := by decide +kernel
theorem dd_T_accept_38 : decode mt_T_accept.2.1 38 = .ok (.goto 55, 3) := by decide +kernel
theorem dd_T_accept_41 : decode mt_T_accept.2.1 41 = .ok (.aload_n 0, 1) := by decide +kernel
theorem dd_T_accept_42 : decode mt_T_accept.2.1 42 = .ok (.invokevirtual 42, 3) := by decide +kernel
theorem dd_T_accept_45 : decode mt_T_accept.2.1 45 = .ok (.ifCond .eq 25, 3) := by decide +kernel
theorem dd_T_accept_48 : decode mt_T_accept.2.1 48 = .ok (.aload_n 0, 1) := by decide +kernel
theorem dd_T_accept_49 : decode mt_T_accept.2.1 49 = .ok (.getfield 34, 3) := by decide +kernel
theorem dd_T_accept_52 : decode mt_T_accept.2.1 52 = .ok (.bipush 10, 2) := by decide +kernel
theorem dd_T_accept_54 : decode mt_T_accept.2.1 54 = .ok (.aload_n 0, 1) := by decide +kernel
theorem dd_T_accept_55 : decode mt_T_accept.2.1 55 = .ok (.getfield 27, 3) := by decide +kernel
theorem dd_T_accept_58 : decode mt_T_accept.2.1 58 = .ok (.aload_n 0, 1) := by decide +kernel
theorem dd_T_accept_59 : decode mt_T_accept.2.1 59 = .ok (.getfield 46, 3) := by decide +kernel
theorem dd_T_accept_62 : decode mt_T_accept.2.1 62 = .ok (.bipush 100, 2) := by decide +kernel
theorem dd_T_accept_64 : decode mt_T_accept.2.1 64 = .ok (.invokevirtual 55, 3) := by decide +kernel
theorem dd_T_accept_67 : decode mt_T_accept.2.1 67 = .ok (.goto 26, 3) := by decide +kernel
theorem dd_T_accept_70 : decode mt_T_accept.2.1 70 = .ok (.aload_n 0, 1) := by decide +kernel
theorem dd_T_accept_71 : decode mt_T_accept.2.1 71 = .ok (.getfield 30, 3) := by decide +kernel
theorem dd_T_accept_74 : decode mt_T_accept.2.1 74 = .ok (.iload_n 1, 1) := by decide +kernel
theorem dd_T_accept_75 : decode mt_T_accept.2.1 75 = .ok (.invokevirtual 61, 3) := by decide +kernel
theorem dd_T_accept_78 : decode mt_T_accept.2.1 78 = .ok (.aload_n 0, 1) := by decide +kernel
theorem dd_T_accept_79 : decode mt_T_accept.2.1 79 = .ok (.getfield 14, 3) := by decide +kernel
theorem dd_T_accept_82 : decode mt_T_accept.2.1 82 = .ok (.aload_n 0, 1) := by decide +kernel
theorem dd_T_accept_83 : decode mt_T_accept.2.1 83 = .ok (.getfield 46, 3) := by decide +kernel
theorem dd_T_accept_86 : decode mt_T_accept.2.1 86 = .ok (.invokevirtual 66, 3) := by decide +kernel
theorem dd_T_accept_89 : decode mt_T_accept.2.1 89 = .ok (.aload_n 0, 1) := by decide +kernel
theorem dd_T_accept_90 : decode mt_T_accept.2.1 90 = .ok (.invokevirtual 67, 3) := by decide +kernel
theorem dd_T_accept_93 : decode mt_T_accept.2.1 93 = .ok (.aload_n 0, 1) := by decide +kernel
theorem dd_T_accept_94 : decode mt_T_accept.2.1 94 = .ok (.getfield 46, 3) := by decide +kernel
theorem dd_T_accept_97 : decode mt_T_accept.2.1 97 = .ok (.ireturn, 1) := by decide +kernel
theorem dd_T_canShutDown_0 : decode mt_T_canShutDown.2.1 0 = .ok (.aload_n 0, 1) := by decide +kernel
theorem dd_T_canShutDown_1 : decode mt_T_canShutDown.2.1 1 = .ok (.getfield 20, 3) := by decide +kernel
theorem dd_T_canShutDown_4 : decode mt_T_canShutDown.2.1 4 = .ok (.iconst 2, 1) := by decide +kernel
theorem dd_T_canShutDown_5 : decode mt_T_canShutDown.2.1 5 = .ok (.if_icmp .eq 14, 3) := by decide +kernel
theorem dd_T_canShutDown_8 : decode mt_T_canShutDown.2.1 8 = .ok (.aload_n 0, 1) := by decide +kernel
theorem dd_T_canShutDown_9 : decode mt_T_canShutDown.2.1 9 = .ok (.invokevirtual 42, 3) := by decide +kernel
theorem dd_T_canShutDown_12 : decode mt_T_canShutDown.2.1 12 = .ok (.ifCond .ne 7, 3) := by decide +kernel
theorem dd_T_canShutDown_15 : decode mt_T_canShutDown.2.1 15 = .ok (.iconst 1, 1) := by decide +kernel
theorem dd_T_canShutDown_16 : decode mt_T_canShutDown.2.1 16 = .ok (.goto 4, 3) := by decide +kernel
theorem dd_T_canShutDown_19 : decode mt_T_canShutDown.2.1 19 = .ok (.iconst 0, 1) := by decide +kernel
theorem dd_T_canShutDown_20 : decode mt_T_canShutDown.2.1 20 = .ok (.ireturn, 1) := by decide +kernel
theorem dd_T_startAbort_0 : decode mt_T_startAbort.2.1 0 = .ok (.aload_n 0, 1) := by decide +kernel
theorem dd_T_startAbort_1 : decode mt_T_startAbort.2.1 1 = .ok (.iconst 0, 1) := by decide +kernel
theorem dd_T_startAbort_2 : decode mt_T_startAbort.2.1 2 = .ok (.putfield 76, 3) := by decide +kernel
theorem dd_T_startAbort_5 : decode mt_T_startAbort.2.1 5 = .ok (.aload_n 0, 1) := by decide +kernel
theorem dd_T_startAbort_6 : decode mt_T_startAbort.2.1 6 = .ok (.getfield 82, 3) := by decide +kernel
theorem dd_T_startAbort_9 : decode mt_T_startAbort.2.1 9 = .ok (.ifCond .eq 24, 3) := by decide +kernel
theorem dd_T_startAbort_12 : decode mt_T_startAbort.2.1 12 = .ok (.aload_n 0, 1) := by decide +kernel
theorem dd_T_startAbort_13 : decode mt_T_startAbort.2.1 13 = .ok (.getfield 34, 3) := by decide +kernel
theorem dd_T_startAbort_16 : decode mt_T_startAbort.2.1 16 = .ok (.bipush 14, 2) := by decide +kernel
theorem dd_T_startAbort_18 : decode mt_T_startAbort.2.1 18 = .ok (.aload_n 0, 1) := by decide +kernel
theorem dd_T_startAbort_19 : decode mt_T_startAbort.2.1 19 = .ok (.getfield 27, 3) := by decide +kernel
theorem dd_T_startAbort_22 : decode mt_T_startAbort.2.1 22 = .ok (.aload_n 0, 1) := by decide +kernel
theorem dd_T_startAbort_23 : decode mt_T_startAbort.2.1 23 = .ok (.getfield 52, 3) := by decide +kernel
theorem dd_T_startAbort_26 : decode mt_T_startAbort.2.1 26 = .ok (.iconst 0, 1) := by decide +kernel
theorem dd_T_startAbort_27 : decode mt_T_startAbort.2.1 27 = .ok (.invokevirtual 55, 3) := by decide +kernel
theorem dd_T_startAbort_30 : decode mt_T_startAbort.2.1 30 = .ok (.goto 25, 3) := by decide +kernel
theorem dd_T_startAbort_33 : decode mt_T_startAbort.2.1 33 = .ok (.aload_n 0, 1) := by decide +kernel
theorem dd_T_startAbort_34 : decode mt_T_startAbort.2.1 34 = .ok (.iconst 5, 1) := by decide +kernel
theorem dd_T_startAbort_35 : decode mt_T_startAbort.2.1 35 = .ok (.putfield 24, 3) := by decide +kernel
theorem dd_T_startAbort_38 : decode mt_T_startAbort.2.1 38 = .ok (.aload_n 0, 1) := by decide +kernel
theorem dd_T_startAbort_39 : decode mt_T_startAbort.2.1 39 = .ok (.getfield 34, 3) := by decide +kernel
theorem dd_T_startAbort_42 : decode mt_T_startAbort.2.1 42 = .ok (.iconst 5, 1) := by decide +kernel
theorem dd_T_startAbort_43 : decode mt_T_startAbort.2.1 43 = .ok (.aload_n 0, 1) := by decide +kernel
theorem dd_T_startAbort_44 : decode mt_T_startAbort.2.1 44 = .ok (.getfield 27, 3) := by decide +kernel
theorem dd_T_startAbort_47 : decode mt_T_startAbort.2.1 47 = .ok (.aload_n 0, 1) := by decide +kernel
theorem dd_T_startAbort_48 : decode mt_T_startAbort.2.1 48 = .ok (.getfield 79, 3) := by decide +kernel
theorem dd_T_startAbort_51 : decode mt_T_startAbort.2.1 51 = .ok (.iconst 0, 1) := by decide +kernel
theorem dd_T_startAbort_52 : decode mt_T_startAbort.2.1 52 = .ok (.invokevirtual 55, 3) := by decide +kernel
theorem dd_T_startAbort_55 : decode mt_T_startAbort.2.1 55 = .ok (.return_, 1) := by decide +kernel
theorem dd_T_loseEnd_0 : decode mt_T_loseEnd.2.1 0 = .ok (.aload_n 0, 1) := by decide +kernel
theorem dd_T_loseEnd_1 : decode mt_T_loseEnd.2.1 1 = .ok (.getfield 38, 3) := by decide +kernel
theorem dd_T_loseEnd_4 : decode mt_T_loseEnd.2.1 4 = .ok (.ifCond .eq 26, 3) := by decide +kernel
theorem dd_T_loseEnd_7 : decode mt_T_loseEnd.2.1 7 = .ok (.aload_n 0, 1) := by decide +kernel
theorem dd_T_loseEnd_8 : decode mt_T_loseEnd.2.1 8 = .ok (.iconst 0, 1) := by decide +kernel
theorem dd_T_loseEnd_9 : decode mt_T_loseEnd.2.1 9 = .ok (.putfield 38, 3) := by decide +kernel
theorem dd_T_loseEnd_12 : decode mt_T_loseEnd.2.1 12 = .ok (.aload_n 0, 1) := by decide +kernel
theorem dd_T_loseEnd_13 : decode mt_T_loseEnd.2.1 13 = .ok (.getfield 34, 3) := by decide +kernel
theorem dd_T_loseEnd_16 : decode mt_T_loseEnd.2.1 16 = .ok (.bipush 12, 2) := by decide +kernel
theorem dd_T_loseEnd_18 : decode mt_T_loseEnd.2.1 18 = .ok (.aload_n 0, 1) := by decide +kernel
theorem dd_T_loseEnd_19 : decode mt_T_loseEnd.2.1 19 = .ok (.getfield 27, 3) := by decide +kernel
theorem dd_T_loseEnd_22 : decode mt_T_loseEnd.2.1 22 = .ok (.aload_n 0, 1) := by decide +kernel
theorem dd_T_loseEnd_23 : decode mt_T_loseEnd.2.1 23 = .ok (.getfield 52, 3) := by decide +kernel
theorem dd_T_loseEnd_26 : decode mt_T_loseEnd.2.1 26 = .ok (.iconst 0, 1) := by decide +kernel
theorem dd_T_loseEnd_27 : decode mt_T_loseEnd.2.1 27 = .ok (.invokevirtual 55, 3) := by decide +kernel
theorem dd_T_loseEnd_30 : decode mt_T_loseEnd.2.1 30 = .ok (.return_, 1) := by decide +kernel
theorem dd_T_breakDown_0 : decode mt_T_breakDown.2.1 0 = .ok (.aload_n 0, 1) := by decide +kernel
theorem dd_T_breakDown_1 : decode mt_T_breakDown.2.1 1 = .ok (.iconst 2, 1) := by decide +kernel
theorem dd_T_breakDown_2 : decode mt_T_breakDown.2.1 2 = .ok (.putfield 20, 3) := by decide +kernel
theorem dd_T_breakDown_5 : decode mt_T_breakDown.2.1 5 = .ok (.iconst 0, 1) := by decide +kernel
theorem dd_T_breakDown_6 : decode mt_T_breakDown.2.1 6 = .ok (.istore_n 1, 1) := by decide +kernel
theorem dd_T_breakDown_7 : decode mt_T_breakDown.2.1 7 = .ok (.iload_n 1, 1) := by decide +kernel
theorem dd_T_breakDown_8 : decode mt_T_breakDown.2.1 8 = .ok (.aload_n 0, 1) := by decide +kernel
theorem dd_T_breakDown_9 : decode mt_T_breakDown.2.1 9 = .ok (.getfield 14, 3) := by decide +kernel
theorem dd_T_breakDown_12 : decode mt_T_breakDown.2.1 12 = .ok (.getfield 118, 3) := by decide +kernel
theorem dd_T_breakDown_15 : decode mt_T_breakDown.2.1 15 = .ok (.if_icmp .ge 34, 3) := by decide +kernel
theorem dd_T_breakDown_18 : decode mt_T_breakDown.2.1 18 = .ok (.aload_n 0, 1) := by decide +kernel
theorem dd_T_breakDown_19 : decode mt_T_breakDown.2.1 19 = .ok (.getfield 34, 3) := by decide +kernel
theorem dd_T_breakDown_22 : decode mt_T_breakDown.2.1 22 = .ok (.bipush 10, 2) := by decide +kernel
theorem dd_T_breakDown_24 : decode mt_T_breakDown.2.1 24 = .ok (.aload_n 0, 1) := by decide +kernel
theorem dd_T_breakDown_25 : decode mt_T_breakDown.2.1 25 = .ok (.getfield 27, 3) := by decide +kernel
theorem dd_T_breakDown_28 : decode mt_T_breakDown.2.1 28 = .ok (.aload_n 0, 1) := by decide +kernel
theorem dd_T_breakDown_29 : decode mt_T_breakDown.2.1 29 = .ok (.getfield 14, 3) := by decide +kernel
theorem dd_T_breakDown_32 : decode mt_T_breakDown.2.1 32 = .ok (.iload_n 1, 1) := by decide +kernel
theorem dd_T_breakDown_33 : decode mt_T_breakDown.2.1 33 = .ok (.invokevirtual 114, 3) := by decide +kernel
theorem dd_T_breakDown_36 : decode mt_T_breakDown.2.1 36 = .ok (.aload_n 0, 1) := by decide +kernel
theorem dd_T_breakDown_37 : decode mt_T_breakDown.2.1 37 = .ok (.getfield 52, 3) := by decide +kernel
theorem dd_T_breakDown_40 : decode mt_T_breakDown.2.1 40 = .ok (.invokevirtual 55, 3) := by decide +kernel
theorem dd_T_breakDown_43 : decode mt_T_breakDown.2.1 43 = .ok (.iinc 1 1, 3) := by decide +kernel
theorem dd_T_breakDown_46 : decode mt_T_breakDown.2.1 46 = .ok (.goto (-39), 3) := by decide +kernel
theorem dd_T_breakDown_49 : decode mt_T_breakDown.2.1 49 = .ok (.aload_n 0, 1) := by decide +kernel
theorem dd_T_breakDown_50 : decode mt_T_breakDown.2.1 50 = .ok (.getfield 14, 3) := by decide +kernel
theorem dd_T_breakDown_53 : decode mt_T_breakDown.2.1 53 = .ok (.invokevirtual 120, 3) := by decide +kernel
theorem dd_T_breakDown_56 : decode mt_T_breakDown.2.1 56 = .ok (.aload_n 0, 1) := by decide +kernel
theorem dd_T_breakDown_57 : decode mt_T_breakDown.2.1 57 = .ok (.getfield 30, 3) := by decide +kernel
theorem dd_T_breakDown_60 : decode mt_T_breakDown.2.1 60 = .ok (.invokevirtual 123, 3) := by decide +kernel
theorem dd_T_breakDown_63 : decode mt_T_breakDown.2.1 63 = .ok (.aload_n 0, 1) := by decide +kernel
theorem dd_T_breakDown_64 : decode mt_T_breakDown.2.1 64 = .ok (.getfield 76, 3) := by decide +kernel
theorem dd_T_breakDown_67 : decode mt_T_breakDown.2.1 67 = .ok (.ifCond .eq 7, 3) := by decide +kernel
theorem dd_T_breakDown_70 : decode mt_T_breakDown.2.1 70 = .ok (.aload_n 0, 1) := by decide +kernel
theorem dd_T_breakDown_71 : decode mt_T_breakDown.2.1 71 = .ok (.invokevirtual 124, 3) := by decide +kernel
theorem dd_T_breakDown_74 : decode mt_T_breakDown.2.1 74 = .ok (.aload_n 0, 1) := by decide +kernel
theorem dd_T_breakDown_75 : decode mt_T_breakDown.2.1 75 = .ok (.getfield 24, 3) := by decide +kernel
theorem dd_T_breakDown_78 : decode mt_T_breakDown.2.1 78 = .ok (.iconst 5, 1) := by decide +kernel
theorem dd_T_breakDown_79 : decode mt_T_breakDown.2.1 79 = .ok (.if_icmp .eq 7, 3) := by decide +kernel
theorem dd_T_breakDown_82 : decode mt_T_breakDown.2.1 82 = .ok (.aload_n 0, 1) := by decide +kernel
theorem dd_T_breakDown_83 : decode mt_T_breakDown.2.1 83 = .ok (.invokevirtual 105, 3) := by decide +kernel
theorem dd_T_breakDown_86 : decode mt_T_breakDown.2.1 86 = .ok (.return_, 1) := by decide +kernel
theorem dd_T_goOn_0 : decode mt_T_goOn.2.1 0 = .ok (.aload_n 0, 1) := by decide +kernel
theorem dd_T_goOn_1 : decode mt_T_goOn.2.1 1 = .ok (.getfield 24, 3) := by decide +kernel
theorem dd_T_goOn_4 : decode mt_T_goOn.2.1 4 = .ok (.ifCond .ne 18, 3) := by decide +kernel
theorem dd_T_goOn_7 : decode mt_T_goOn.2.1 7 = .ok (.aload_n 0, 1) := by decide +kernel
theorem dd_T_goOn_8 : decode mt_T_goOn.2.1 8 = .ok (.getfield 20, 3) := by decide +kernel
theorem dd_T_goOn_11 : decode mt_T_goOn.2.1 11 = .ok (.iconst 1, 1) := by decide +kernel
theorem dd_T_goOn_12 : decode mt_T_goOn.2.1 12 = .ok (.if_icmp .ne 10, 3) := by decide +kernel
theorem dd_T_goOn_15 : decode mt_T_goOn.2.1 15 = .ok (.aload_n 0, 1) := by decide +kernel
theorem dd_T_goOn_16 : decode mt_T_goOn.2.1 16 = .ok (.invokevirtual 88, 3) := by decide +kernel
theorem dd_T_goOn_19 : decode mt_T_goOn.2.1 19 = .ok (.goto 7, 3) := by decide +kernel
theorem dd_T_goOn_22 : decode mt_T_goOn.2.1 22 = .ok (.aload_n 0, 1) := by decide +kernel
theorem dd_T_goOn_23 : decode mt_T_goOn.2.1 23 = .ok (.invokevirtual 67, 3) := by decide +kernel
theorem dd_T_goOn_26 : decode mt_T_goOn.2.1 26 = .ok (.return_, 1) := by decide +kernel
theorem dd_T_shutDown_0 : decode mt_T_shutDown.2.1 0 = .ok (.aload_n 0, 1) := by decide +kernel
theorem dd_T_shutDown_1 : decode mt_T_shutDown.2.1 1 = .ok (.invokevirtual 70, 3) := by decide +kernel
theorem dd_T_shutDown_4 : decode mt_T_shutDown.2.1 4 = .ok (.ifCond .eq 12, 3) := by decide +kernel
theorem dd_T_shutDown_7 : decode mt_T_shutDown.2.1 7 = .ok (.aload_n 0, 1) := by decide +kernel
theorem dd_T_shutDown_8 : decode mt_T_shutDown.2.1 8 = .ok (.iconst 1, 1) := by decide +kernel
theorem dd_T_shutDown_9 : decode mt_T_shutDown.2.1 9 = .ok (.putfield 38, 3) := by decide +kernel
theorem dd_T_shutDown_12 : decode mt_T_shutDown.2.1 12 = .ok (.aload_n 0, 1) := by decide +kernel
theorem dd_T_shutDown_13 : decode mt_T_shutDown.2.1 13 = .ok (.invokevirtual 73, 3) := by decide +kernel
theorem dd_T_shutDown_16 : decode mt_T_shutDown.2.1 16 = .ok (.return_, 1) := by decide +kernel
theorem dd_T_startFailing_0 : decode mt_T_startFailing.2.1 0 = .ok (.aload_n 0, 1) := by decide +kernel
theorem dd_T_startFailing_1 : decode mt_T_startFailing.2.1 1 = .ok (.iconst 1, 1) := by decide +kernel
theorem dd_T_startFailing_2 : decode mt_T_startFailing.2.1 2 = .ok (.putfield 20, 3) := by decide +kernel
theorem dd_T_startFailing_5 : decode mt_T_startFailing.2.1 5 = .ok (.aload_n 0, 1) := by decide +kernel
theorem dd_T_startFailing_6 : decode mt_T_startFailing.2.1 6 = .ok (.iload_n 1, 1) := by decide +kernel
theorem dd_T_startFailing_7 : decode mt_T_startFailing.2.1 7 = .ok (.putfield 52, 3) := by decide +kernel
theorem dd_T_startFailing_10 : decode mt_T_startFailing.2.1 10 = .ok (.aload_n 0, 1) := by decide +kernel
theorem dd_T_startFailing_11 : decode mt_T_startFailing.2.1 11 = .ok (.getfield 24, 3) := by decide +kernel
theorem dd_T_startFailing_14 : decode mt_T_startFailing.2.1 14 = .ok (.ifCond .ne 7, 3) := by decide +kernel
theorem dd_T_startFailing_17 : decode mt_T_startFailing.2.1 17 = .ok (.aload_n 0, 1) := by decide +kernel
theorem dd_T_startFailing_18 : decode mt_T_startFailing.2.1 18 = .ok (.invokevirtual 88, 3) := by decide +kernel
theorem dd_T_startFailing_21 : decode mt_T_startFailing.2.1 21 = .ok (.return_, 1) := by decide +kernel
theorem dd_T_abortWith_0 : decode mt_T_abortWith.2.1 0 = .ok (.aload_n 0, 1) := by decide +kernel
theorem dd_T_abortWith_1 : decode mt_T_abortWith.2.1 1 = .ok (.getfield 20, 3) := by decide +kernel
theorem dd_T_abortWith_4 : decode mt_T_abortWith.2.1 4 = .ok (.iconst 3, 1) := by decide +kernel
theorem dd_T_abortWith_5 : decode mt_T_abortWith.2.1 5 = .ok (.if_icmp .eq 11, 3) := by decide +kernel
theorem dd_T_abortWith_8 : decode mt_T_abortWith.2.1 8 = .ok (.aload_n 0, 1) := by decide +kernel
theorem dd_T_abortWith_9 : decode mt_T_abortWith.2.1 9 = .ok (.getfield 20, 3) := by decide +kernel
theorem dd_T_abortWith_12 : decode mt_T_abortWith.2.1 12 = .ok (.iconst 2, 1) := by decide +kernel
theorem dd_T_abortWith_13 : decode mt_T_abortWith.2.1 13 = .ok (.if_icmp .ne 19, 3) := by decide +kernel
theorem dd_T_abortWith_16 : decode mt_T_abortWith.2.1 16 = .ok (.aload_n 0, 1) := by decide +kernel
theorem dd_T_abortWith_17 : decode mt_T_abortWith.2.1 17 = .ok (.getfield 34, 3) := by decide +kernel
theorem dd_T_abortWith_20 : decode mt_T_abortWith.2.1 20 = .ok (.bipush 13, 2) := by decide +kernel
theorem dd_T_abortWith_22 : decode mt_T_abortWith.2.1 22 = .ok (.aload_n 0, 1) := by decide +kernel
theorem dd_T_abortWith_23 : decode mt_T_abortWith.2.1 23 = .ok (.getfield 27, 3) := by decide +kernel
theorem dd_T_abortWith_26 : decode mt_T_abortWith.2.1 26 = .ok (.iconst 0, 1) := by decide +kernel
theorem dd_T_abortWith_27 : decode mt_T_abortWith.2.1 27 = .ok (.iconst 0, 1) := by decide +kernel
theorem dd_T_abortWith_28 : decode mt_T_abortWith.2.1 28 = .ok (.invokevirtual 55, 3) := by decide +kernel
theorem dd_T_abortWith_31 : decode mt_T_abortWith.2.1 31 = .ok (.return_, 1) := by decide +kernel
theorem dd_T_abortWith_32 : decode mt_T_abortWith.2.1 32 = .ok (.aload_n 0, 1) := by decide +kernel
theorem dd_T_abortWith_33 : decode mt_T_abortWith.2.1 33 = .ok (.getfield 76, 3) := by decide +kernel
theorem dd_T_abortWith_36 : decode mt_T_abortWith.2.1 36 = .ok (.ifCond .eq 4, 3) := by decide +kernel
theorem dd_T_abortWith_39 : decode mt_T_abortWith.2.1 39 = .ok (.return_, 1) := by decide +kernel
theorem dd_T_abortWith_40 : decode mt_T_abortWith.2.1 40 = .ok (.aload_n 0, 1) := by decide +kernel
theorem dd_T_abortWith_41 : decode mt_T_abortWith.2.1 41 = .ok (.iconst 1, 1) := by decide +kernel
theorem dd_T_abortWith_42 : decode mt_T_abortWith.2.1 42 = .ok (.putfield 76, 3) := by decide +kernel
theorem dd_T_abortWith_45 : decode mt_T_abortWith.2.1 45 = .ok (.aload_n 0, 1) := by decide +kernel
theorem dd_T_abortWith_46 : decode mt_T_abortWith.2.1 46 = .ok (.iload_n 1, 1) := by decide +kernel
theorem dd_T_abortWith_47 : decode mt_T_abortWith.2.1 47 = .ok (.putfield 79, 3) := by decide +kernel
theorem dd_T_abortWith_50 : decode mt_T_abortWith.2.1 50 = .ok (.aload_n 0, 1) := by decide +kernel
theorem dd_T_abortWith_51 : decode mt_T_abortWith.2.1 51 = .ok (.aload_n 0, 1) := by decide +kernel
theorem dd_T_abortWith_52 : decode mt_T_abortWith.2.1 52 = .ok (.getfield 20, 3) := by decide +kernel
theorem dd_T_abortWith_55 : decode mt_T_abortWith.2.1 55 = .ok (.iconst 1, 1) := by decide +kernel
theorem dd_T_abortWith_56 : decode mt_T_abortWith.2.1 56 = .ok (.if_icmp .ne 7, 3) := by decide +kernel
theorem dd_T_abortWith_59 : decode mt_T_abortWith.2.1 59 = .ok (.iconst 1, 1) := by decide +kernel
theorem dd_T_abortWith_60 : decode mt_T_abortWith.2.1 60 = .ok (.goto 4, 3) := by decide +kernel
theorem dd_T_abortWith_63 : decode mt_T_abortWith.2.1 63 = .ok (.iconst 0, 1) := by decide +kernel
theorem dd_T_abortWith_64 : decode mt_T_abortWith.2.1 64 = .ok (.putfield 82, 3) := by decide +kernel
theorem dd_T_abortWith_67 : decode mt_T_abortWith.2.1 67 = .ok (.aload_n 0, 1) := by decide +kernel
theorem dd_T_abortWith_68 : decode mt_T_abortWith.2.1 68 = .ok (.getfield 82, 3) := by decide +kernel
theorem dd_T_abortWith_71 : decode mt_T_abortWith.2.1 71 = .ok (.ifCond .ne 8, 3) := by decide +kernel
theorem dd_T_abortWith_74 : decode mt_T_abortWith.2.1 74 = .ok (.aload_n 0, 1) := by decide +kernel
theorem dd_T_abortWith_75 : decode mt_T_abortWith.2.1 75 = .ok (.iload_n 1, 1) := by decide +kernel
theorem dd_T_abortWith_76 : decode mt_T_abortWith.2.1 76 = .ok (.invokevirtual 85, 3) := by decide +kernel
theorem dd_T_abortWith_79 : decode mt_T_abortWith.2.1 79 = .ok (.return_, 1) := by decide +kernel
theorem dd_T_failOrBreak_0 : decode mt_T_failOrBreak.2.1 0 = .ok (.aload_n 0, 1) := by decide +kernel
theorem dd_T_failOrBreak_1 : decode mt_T_failOrBreak.2.1 1 = .ok (.getfield 20, 3) := by decide +kernel
theorem dd_T_failOrBreak_4 : decode mt_T_failOrBreak.2.1 4 = .ok (.ifCond .ne 8, 3) := by decide +kernel
theorem dd_T_failOrBreak_7 : decode mt_T_failOrBreak.2.1 7 = .ok (.aload_n 0, 1) := by decide +kernel
theorem dd_T_failOrBreak_8 : decode mt_T_failOrBreak.2.1 8 = .ok (.iload_n 1, 1) := by decide +kernel
theorem dd_T_failOrBreak_9 : decode mt_T_failOrBreak.2.1 9 = .ok (.putfield 52, 3) := by decide +kernel
theorem dd_T_failOrBreak_12 : decode mt_T_failOrBreak.2.1 12 = .ok (.aload_n 0, 1) := by decide +kernel
theorem dd_T_failOrBreak_13 : decode mt_T_failOrBreak.2.1 13 = .ok (.invokevirtual 88, 3) := by decide +kernel
theorem dd_T_failOrBreak_16 : decode mt_T_failOrBreak.2.1 16 = .ok (.return_, 1) := by decide +kernel
theorem dd_T_written_0 : decode mt_T_written.2.1 0 = .ok (.aload_n 0, 1) := by decide +kernel
theorem dd_T_written_1 : decode mt_T_written.2.1 1 = .ok (.getfield 30, 3) := by decide +kernel
theorem dd_T_written_4 : decode mt_T_written.2.1 4 = .ok (.invokevirtual 91, 3) := by decide +kernel
theorem dd_T_written_7 : decode mt_T_written.2.1 7 = .ok (.pop, 1) := by decide +kernel
theorem dd_T_written_8 : decode mt_T_written.2.1 8 = .ok (.aload_n 0, 1) := by decide +kernel
theorem dd_T_written_9 : decode mt_T_written.2.1 9 = .ok (.getfield 14, 3) := by decide +kernel
theorem dd_T_written_12 : decode mt_T_written.2.1 12 = .ok (.invokevirtual 95, 3) := by decide +kernel
theorem dd_T_written_15 : decode mt_T_written.2.1 15 = .ok (.istore_n 2, 1) := by decide +kernel
theorem dd_T_written_16 : decode mt_T_written.2.1 16 = .ok (.iload_n 1, 1) := by decide +kernel
theorem dd_T_written_17 : decode mt_T_written.2.1 17 = .ok (.iconst (-1), 1) := by decide +kernel
theorem dd_T_written_18 : decode mt_T_written.2.1 18 = .ok (.if_icmp .ne 25, 3) := by decide +kernel
theorem dd_T_written_21 : decode mt_T_written.2.1 21 = .ok (.aload_n 0, 1) := by decide +kernel
theorem dd_T_written_22 : decode mt_T_written.2.1 22 = .ok (.getfield 34, 3) := by decide +kernel
theorem dd_T_written_25 : decode mt_T_written.2.1 25 = .ok (.bipush 9, 2) := by decide +kernel
theorem dd_T_written_27 : decode mt_T_written.2.1 27 = .ok (.aload_n 0, 1) := by decide +kernel
theorem dd_T_written_28 : decode mt_T_written.2.1 28 = .ok (.getfield 27, 3) := by decide +kernel
theorem dd_T_written_31 : decode mt_T_written.2.1 31 = .ok (.iload_n 2, 1) := by decide +kernel
theorem dd_T_written_32 : decode mt_T_written.2.1 32 = .ok (.iconst 0, 1) := by decide +kernel
theorem dd_T_written_33 : decode mt_T_written.2.1 33 = .ok (.invokevirtual 55, 3) := by decide +kernel
theorem dd_T_written_36 : decode mt_T_written.2.1 36 = .ok (.aload_n 0, 1) := by decide +kernel
theorem dd_T_written_37 : decode mt_T_written.2.1 37 = .ok (.invokevirtual 73, 3) := by decide +kernel
theorem dd_T_written_40 : decode mt_T_written.2.1 40 = .ok (.goto 23, 3) := by decide +kernel
theorem dd_T_written_43 : decode mt_T_written.2.1 43 = .ok (.aload_n 0, 1) := by decide +kernel
theorem dd_T_written_44 : decode mt_T_written.2.1 44 = .ok (.getfield 34, 3) := by decide +kernel
theorem dd_T_written_47 : decode mt_T_written.2.1 47 = .ok (.bipush 10, 2) := by decide +kernel
theorem dd_T_written_49 : decode mt_T_written.2.1 49 = .ok (.aload_n 0, 1) := by decide +kernel
theorem dd_T_written_50 : decode mt_T_written.2.1 50 = .ok (.getfield 27, 3) := by decide +kernel
theorem dd_T_written_53 : decode mt_T_written.2.1 53 = .ok (.iload_n 2, 1) := by decide +kernel
theorem dd_T_written_54 : decode mt_T_written.2.1 54 = .ok (.iload_n 1, 1) := by decide +kernel
theorem dd_T_written_55 : decode mt_T_written.2.1 55 = .ok (.invokevirtual 55, 3) := by decide +kernel
theorem dd_T_written_58 : decode mt_T_written.2.1 58 = .ok (.aload_n 0, 1) := by decide +kernel
theorem dd_T_written_59 : decode mt_T_written.2.1 59 = .ok (.iload_n 1, 1) := by decide +kernel
theorem dd_T_written_60 : decode mt_T_written.2.1 60 = .ok (.invokevirtual 96, 3) := by decide +kernel
theorem dd_T_written_63 : decode mt_T_written.2.1 63 = .ok (.return_, 1) := by decide +kernel
theorem dd_T_noteAborted_0 : decode mt_T_noteAborted.2.1 0 = .ok (.iload_n 1, 1) := by decide +kernel
theorem dd_T_noteAborted_1 : decode mt_T_noteAborted.2.1 1 = .ok (.iconst (-1), 1) := by decide +kernel
theorem dd_T_noteAborted_2 : decode mt_T_noteAborted.2.1 2 = .ok (.if_icmp .ne 21, 3) := by decide +kernel
theorem dd_T_noteAborted_5 : decode mt_T_noteAborted.2.1 5 = .ok (.aload_n 0, 1) := by decide +kernel
theorem dd_T_noteAborted_6 : decode mt_T_noteAborted.2.1 6 = .ok (.getfield 34, 3) := by decide +kernel
theorem dd_T_noteAborted_9 : decode mt_T_noteAborted.2.1 9 = .ok (.bipush 13, 2) := by decide +kernel
theorem dd_T_noteAborted_11 : decode mt_T_noteAborted.2.1 11 = .ok (.aload_n 0, 1) := by decide +kernel
theorem dd_T_noteAborted_12 : decode mt_T_noteAborted.2.1 12 = .ok (.getfield 27, 3) := by decide +kernel
theorem dd_T_noteAborted_15 : decode mt_T_noteAborted.2.1 15 = .ok (.iconst 0, 1) := by decide +kernel
theorem dd_T_noteAborted_16 : decode mt_T_noteAborted.2.1 16 = .ok (.iconst 0, 1) := by decide +kernel
theorem dd_T_noteAborted_17 : decode mt_T_noteAborted.2.1 17 = .ok (.invokevirtual 55, 3) := by decide +kernel
theorem dd_T_noteAborted_20 : decode mt_T_noteAborted.2.1 20 = .ok (.goto 18, 3) := by decide +kernel
theorem dd_T_noteAborted_23 : decode mt_T_noteAborted.2.1 23 = .ok (.aload_n 0, 1) := by decide +kernel
theorem dd_T_noteAborted_24 : decode mt_T_noteAborted.2.1 24 = .ok (.getfield 34, 3) := by decide +kernel
theorem dd_T_noteAborted_27 : decode mt_T_noteAborted.2.1 27 = .ok (.bipush 14, 2) := by decide +kernel
theorem dd_T_noteAborted_29 : decode mt_T_noteAborted.2.1 29 = .ok (.aload_n 0, 1) := by decide +kernel
theorem dd_T_noteAborted_30 : decode mt_T_noteAborted.2.1 30 = .ok (.getfield 27, 3) := by decide +kernel
theorem dd_T_noteAborted_33 : decode mt_T_noteAborted.2.1 33 = .ok (.iload_n 1, 1) := by decide +kernel
theorem dd_T_noteAborted_34 : decode mt_T_noteAborted.2.1 34 = .ok (.iconst 0, 1) := by decide +kernel
theorem dd_T_noteAborted_35 : decode mt_T_noteAborted.2.1 35 = .ok (.invokevirtual 55, 3) := by decide +kernel
theorem dd_T_noteAborted_38 : decode mt_T_noteAborted.2.1 38 = .ok (.return_, 1) := by decide +kernel
theorem dd_T_endAbort_0 : decode mt_T_endAbort.2.1 0 = .ok (.aload_n 0, 1) := by decide +kernel
theorem dd_T_endAbort_1 : decode mt_T_endAbort.2.1 1 = .ok (.getfield 76, 3) := by decide +kernel
theorem dd_T_endAbort_4 : decode mt_T_endAbort.2.1 4 = .ok (.ifCond .eq 13, 3) := by decide +kernel
theorem dd_T_endAbort_7 : decode mt_T_endAbort.2.1 7 = .ok (.aload_n 0, 1) := by decide +kernel
theorem dd_T_endAbort_8 : decode mt_T_endAbort.2.1 8 = .ok (.iconst 0, 1) := by decide +kernel
theorem dd_T_endAbort_9 : decode mt_T_endAbort.2.1 9 = .ok (.putfield 76, 3) := by decide +kernel
theorem dd_T_endAbort_12 : decode mt_T_endAbort.2.1 12 = .ok (.aload_n 0, 1) := by decide +kernel
theorem dd_T_endAbort_13 : decode mt_T_endAbort.2.1 13 = .ok (.iload_n 1, 1) := by decide +kernel
theorem dd_T_endAbort_14 : decode mt_T_endAbort.2.1 14 = .ok (.invokevirtual 102, 3) := by decide +kernel
theorem dd_T_endAbort_17 : decode mt_T_endAbort.2.1 17 = .ok (.return_, 1) := by decide +kernel
theorem dd_T_wasShut_0 : decode mt_T_wasShut.2.1 0 = .ok (.iload_n 1, 1) := by decide +kernel
theorem dd_T_wasShut_1 : decode mt_T_wasShut.2.1 1 = .ok (.iconst (-1), 1) := by decide +kernel
theorem dd_T_wasShut_2 : decode mt_T_wasShut.2.1 2 = .ok (.if_icmp .ne 31, 3) := by decide +kernel
theorem dd_T_wasShut_5 : decode mt_T_wasShut.2.1 5 = .ok (.aload_n 0, 1) := by decide +kernel
theorem dd_T_wasShut_6 : decode mt_T_wasShut.2.1 6 = .ok (.getfield 34, 3) := by decide +kernel
theorem dd_T_wasShut_9 : decode mt_T_wasShut.2.1 9 = .ok (.bipush 11, 2) := by decide +kernel
theorem dd_T_wasShut_11 : decode mt_T_wasShut.2.1 11 = .ok (.aload_n 0, 1) := by decide +kernel
theorem dd_T_wasShut_12 : decode mt_T_wasShut.2.1 12 = .ok (.getfield 27, 3) := by decide +kernel
theorem dd_T_wasShut_15 : decode mt_T_wasShut.2.1 15 = .ok (.iconst 0, 1) := by decide +kernel
theorem dd_T_wasShut_16 : decode mt_T_wasShut.2.1 16 = .ok (.iconst 0, 1) := by decide +kernel
theorem dd_T_wasShut_17 : decode mt_T_wasShut.2.1 17 = .ok (.invokevirtual 55, 3) := by decide +kernel
theorem dd_T_wasShut_20 : decode mt_T_wasShut.2.1 20 = .ok (.aload_n 0, 1) := by decide +kernel
theorem dd_T_wasShut_21 : decode mt_T_wasShut.2.1 21 = .ok (.iload_n 1, 1) := by decide +kernel
theorem dd_T_wasShut_22 : decode mt_T_wasShut.2.1 22 = .ok (.invokevirtual 99, 3) := by decide +kernel
theorem dd_T_wasShut_25 : decode mt_T_wasShut.2.1 25 = .ok (.aload_n 0, 1) := by decide +kernel
theorem dd_T_wasShut_26 : decode mt_T_wasShut.2.1 26 = .ok (.iconst 3, 1) := by decide +kernel
theorem dd_T_wasShut_27 : decode mt_T_wasShut.2.1 27 = .ok (.putfield 20, 3) := by decide +kernel
theorem dd_T_wasShut_30 : decode mt_T_wasShut.2.1 30 = .ok (.goto 28, 3) := by decide +kernel
theorem dd_T_wasShut_33 : decode mt_T_wasShut.2.1 33 = .ok (.aload_n 0, 1) := by decide +kernel
theorem dd_T_wasShut_34 : decode mt_T_wasShut.2.1 34 = .ok (.getfield 34, 3) := by decide +kernel
theorem dd_T_wasShut_37 : decode mt_T_wasShut.2.1 37 = .ok (.bipush 12, 2) := by decide +kernel
theorem dd_T_wasShut_39 : decode mt_T_wasShut.2.1 39 = .ok (.aload_n 0, 1) := by decide +kernel
theorem dd_T_wasShut_40 : decode mt_T_wasShut.2.1 40 = .ok (.getfield 27, 3) := by decide +kernel
theorem dd_T_wasShut_43 : decode mt_T_wasShut.2.1 43 = .ok (.iload_n 1, 1) := by decide +kernel
theorem dd_T_wasShut_44 : decode mt_T_wasShut.2.1 44 = .ok (.iconst 0, 1) := by decide +kernel
theorem dd_T_wasShut_45 : decode mt_T_wasShut.2.1 45 = .ok (.invokevirtual 55, 3) := by decide +kernel
theorem dd_T_wasShut_48 : decode mt_T_wasShut.2.1 48 = .ok (.aload_n 0, 1) := by decide +kernel
theorem dd_T_wasShut_49 : decode mt_T_wasShut.2.1 49 = .ok (.iload_n 1, 1) := by decide +kernel
theorem dd_T_wasShut_50 : decode mt_T_wasShut.2.1 50 = .ok (.invokevirtual 99, 3) := by decide +kernel
theorem dd_T_wasShut_53 : decode mt_T_wasShut.2.1 53 = .ok (.aload_n 0, 1) := by decide +kernel
theorem dd_T_wasShut_54 : decode mt_T_wasShut.2.1 54 = .ok (.iload_n 1, 1) := by decide +kernel
theorem dd_T_wasShut_55 : decode mt_T_wasShut.2.1 55 = .ok (.invokevirtual 96, 3) := by decide +kernel
theorem dd_T_wasShut_58 : decode mt_T_wasShut.2.1 58 = .ok (.return_, 1) := by decide +kernel
theorem dd_T_wasAborted_0 : decode mt_T_wasAborted.2.1 0 = .ok (.aload_n 0, 1) := by decide +kernel
theorem dd_T_wasAborted_1 : decode mt_T_wasAborted.2.1 1 = .ok (.iload_n 1, 1) := by decide +kernel
theorem dd_T_wasAborted_2 : decode mt_T_wasAborted.2.1 2 = .ok (.invokevirtual 102, 3) := by decide +kernel
theorem dd_T_wasAborted_5 : decode mt_T_wasAborted.2.1 5 = .ok (.aload_n 0, 1) := by decide +kernel
theorem dd_T_wasAborted_6 : decode mt_T_wasAborted.2.1 6 = .ok (.invokevirtual 105, 3) := by decide +kernel
theorem dd_T_wasAborted_9 : decode mt_T_wasAborted.2.1 9 = .ok (.return_, 1) := by decide +kernel
