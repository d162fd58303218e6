theorem dd_M_shutDone_0 : decode mt_M_shutDone.2.1 0 = .ok (.aload_n 0, 1) := by decide +kernel
theorem dd_M_shutDone_1 : decode mt_M_shutDone.2.1 1 = .ok (.getfield 95, 3) := by decide +kernel
theorem dd_M_shutDone_4 : decode mt_M_shutDone.2.1 4 = .ok (.iload_n 1, 1) := by decide +kernel
theorem dd_M_shutDone_5 : decode mt_M_shutDone.2.1 5 = .ok (.iconst 0, 1) := by decide +kernel
theorem dd_M_shutDone_6 : decode mt_M_shutDone.2.1 6 = .ok (.iastore, 1) := by decide +kernel
theorem dd_M_shutDone_7 : decode mt_M_shutDone.2.1 7 = .ok (.iload_n 2, 1) := by decide +kernel
theorem dd_M_shutDone_8 : decode mt_M_shutDone.2.1 8 = .ok (.iconst (-1), 1) := by decide +kernel
theorem dd_M_shutDone_9 : decode mt_M_shutDone.2.1 9 = .ok (.if_icmp .ne 47, 3) := by decide +kernel
theorem dd_M_shutDone_12 : decode mt_M_shutDone.2.1 12 = .ok (.aload_n 0, 1) := by decide +kernel
theorem dd_M_shutDone_13 : decode mt_M_shutDone.2.1 13 = .ok (.bipush 11, 2) := by decide +kernel
theorem dd_M_shutDone_15 : decode mt_M_shutDone.2.1 15 = .ok (.iload_n 1, 1) := by decide +kernel
theorem dd_M_shutDone_16 : decode mt_M_shutDone.2.1 16 = .ok (.iconst 0, 1) := by decide +kernel
theorem dd_M_shutDone_17 : decode mt_M_shutDone.2.1 17 = .ok (.iconst 0, 1) := by decide +kernel
theorem dd_M_shutDone_18 : decode mt_M_shutDone.2.1 18 = .ok (.invokevirtual 160, 3) := by decide +kernel
theorem dd_M_shutDone_21 : decode mt_M_shutDone.2.1 21 = .ok (.aload_n 0, 1) := by decide +kernel
theorem dd_M_shutDone_22 : decode mt_M_shutDone.2.1 22 = .ok (.getfield 98, 3) := by decide +kernel
theorem dd_M_shutDone_25 : decode mt_M_shutDone.2.1 25 = .ok (.iload_n 1, 1) := by decide +kernel
theorem dd_M_shutDone_26 : decode mt_M_shutDone.2.1 26 = .ok (.baload, 1) := by decide +kernel
theorem dd_M_shutDone_27 : decode mt_M_shutDone.2.1 27 = .ok (.ifCond .eq 19, 3) := by decide +kernel
theorem dd_M_shutDone_30 : decode mt_M_shutDone.2.1 30 = .ok (.aload_n 0, 1) := by decide +kernel
theorem dd_M_shutDone_31 : decode mt_M_shutDone.2.1 31 = .ok (.getfield 98, 3) := by decide +kernel
theorem dd_M_shutDone_34 : decode mt_M_shutDone.2.1 34 = .ok (.iload_n 1, 1) := by decide +kernel
theorem dd_M_shutDone_35 : decode mt_M_shutDone.2.1 35 = .ok (.iconst 0, 1) := by decide +kernel
theorem dd_M_shutDone_36 : decode mt_M_shutDone.2.1 36 = .ok (.bastore, 1) := by decide +kernel
theorem dd_M_shutDone_37 : decode mt_M_shutDone.2.1 37 = .ok (.aload_n 0, 1) := by decide +kernel
theorem dd_M_shutDone_38 : decode mt_M_shutDone.2.1 38 = .ok (.bipush 13, 2) := by decide +kernel
theorem dd_M_shutDone_40 : decode mt_M_shutDone.2.1 40 = .ok (.iload_n 1, 1) := by decide +kernel
theorem dd_M_shutDone_41 : decode mt_M_shutDone.2.1 41 = .ok (.iconst 0, 1) := by decide +kernel
theorem dd_M_shutDone_42 : decode mt_M_shutDone.2.1 42 = .ok (.iconst 0, 1) := by decide +kernel
theorem dd_M_shutDone_43 : decode mt_M_shutDone.2.1 43 = .ok (.invokevirtual 160, 3) := by decide +kernel
theorem dd_M_shutDone_46 : decode mt_M_shutDone.2.1 46 = .ok (.aload_n 0, 1) := by decide +kernel
theorem dd_M_shutDone_47 : decode mt_M_shutDone.2.1 47 = .ok (.getfield 68, 3) := by decide +kernel
theorem dd_M_shutDone_50 : decode mt_M_shutDone.2.1 50 = .ok (.iload_n 1, 1) := by decide +kernel
theorem dd_M_shutDone_51 : decode mt_M_shutDone.2.1 51 = .ok (.iconst 3, 1) := by decide +kernel
theorem dd_M_shutDone_52 : decode mt_M_shutDone.2.1 52 = .ok (.iastore, 1) := by decide +kernel
theorem dd_M_shutDone_53 : decode mt_M_shutDone.2.1 53 = .ok (.goto 43, 3) := by decide +kernel
theorem dd_M_shutDone_56 : decode mt_M_shutDone.2.1 56 = .ok (.aload_n 0, 1) := by decide +kernel
theorem dd_M_shutDone_57 : decode mt_M_shutDone.2.1 57 = .ok (.bipush 12, 2) := by decide +kernel
theorem dd_M_shutDone_59 : decode mt_M_shutDone.2.1 59 = .ok (.iload_n 1, 1) := by decide +kernel
theorem dd_M_shutDone_60 : decode mt_M_shutDone.2.1 60 = .ok (.iload_n 2, 1) := by decide +kernel
theorem dd_M_shutDone_61 : decode mt_M_shutDone.2.1 61 = .ok (.iconst 0, 1) := by decide +kernel
theorem dd_M_shutDone_62 : decode mt_M_shutDone.2.1 62 = .ok (.invokevirtual 160, 3) := by decide +kernel
theorem dd_M_shutDone_65 : decode mt_M_shutDone.2.1 65 = .ok (.aload_n 0, 1) := by decide +kernel
theorem dd_M_shutDone_66 : decode mt_M_shutDone.2.1 66 = .ok (.getfield 98, 3) := by decide +kernel
theorem dd_M_shutDone_69 : decode mt_M_shutDone.2.1 69 = .ok (.iload_n 1, 1) := by decide +kernel
theorem dd_M_shutDone_70 : decode mt_M_shutDone.2.1 70 = .ok (.baload, 1) := by decide +kernel
theorem dd_M_shutDone_71 : decode mt_M_shutDone.2.1 71 = .ok (.ifCond .eq 19, 3) := by decide +kernel
theorem dd_M_shutDone_74 : decode mt_M_shutDone.2.1 74 = .ok (.aload_n 0, 1) := by decide +kernel
theorem dd_M_shutDone_75 : decode mt_M_shutDone.2.1 75 = .ok (.getfield 98, 3) := by decide +kernel
theorem dd_M_shutDone_78 : decode mt_M_shutDone.2.1 78 = .ok (.iload_n 1, 1) := by decide +kernel
theorem dd_M_shutDone_79 : decode mt_M_shutDone.2.1 79 = .ok (.iconst 0, 1) := by decide +kernel
theorem dd_M_shutDone_80 : decode mt_M_shutDone.2.1 80 = .ok (.bastore, 1) := by decide +kernel
theorem dd_M_shutDone_81 : decode mt_M_shutDone.2.1 81 = .ok (.aload_n 0, 1) := by decide +kernel
theorem dd_M_shutDone_82 : decode mt_M_shutDone.2.1 82 = .ok (.bipush 14, 2) := by decide +kernel
theorem dd_M_shutDone_84 : decode mt_M_shutDone.2.1 84 = .ok (.iload_n 1, 1) := by decide +kernel
theorem dd_M_shutDone_85 : decode mt_M_shutDone.2.1 85 = .ok (.iload_n 2, 1) := by decide +kernel
theorem dd_M_shutDone_86 : decode mt_M_shutDone.2.1 86 = .ok (.iconst 0, 1) := by decide +kernel
theorem dd_M_shutDone_87 : decode mt_M_shutDone.2.1 87 = .ok (.invokevirtual 160, 3) := by decide +kernel
theorem dd_M_shutDone_90 : decode mt_M_shutDone.2.1 90 = .ok (.aload_n 0, 1) := by decide +kernel
theorem dd_M_shutDone_91 : decode mt_M_shutDone.2.1 91 = .ok (.iload_n 1, 1) := by decide +kernel
theorem dd_M_shutDone_92 : decode mt_M_shutDone.2.1 92 = .ok (.iload_n 2, 1) := by decide +kernel
theorem dd_M_shutDone_93 : decode mt_M_shutDone.2.1 93 = .ok (.invokevirtual 171, 3) := by decide +kernel
theorem dd_M_shutDone_96 : decode mt_M_shutDone.2.1 96 = .ok (.return_, 1) := by decide +kernel
theorem dd_M_abortDone_0 : decode mt_M_abortDone.2.1 0 = .ok (.aload_n 0, 1) := by decide +kernel
theorem dd_M_abortDone_1 : decode mt_M_abortDone.2.1 1 = .ok (.getfield 95, 3) := by decide +kernel
theorem dd_M_abortDone_4 : decode mt_M_abortDone.2.1 4 = .ok (.iload_n 1, 1) := by decide +kernel
theorem dd_M_abortDone_5 : decode mt_M_abortDone.2.1 5 = .ok (.iconst 0, 1) := by decide +kernel
theorem dd_M_abortDone_6 : decode mt_M_abortDone.2.1 6 = .ok (.iastore, 1) := by decide +kernel
theorem dd_M_abortDone_7 : decode mt_M_abortDone.2.1 7 = .ok (.aload_n 0, 1) := by decide +kernel
theorem dd_M_abortDone_8 : decode mt_M_abortDone.2.1 8 = .ok (.iload_n 2, 1) := by decide +kernel
theorem dd_M_abortDone_9 : decode mt_M_abortDone.2.1 9 = .ok (.iconst (-1), 1) := by decide +kernel
theorem dd_M_abortDone_10 : decode mt_M_abortDone.2.1 10 = .ok (.if_icmp .ne 8, 3) := by decide +kernel
theorem dd_M_abortDone_13 : decode mt_M_abortDone.2.1 13 = .ok (.bipush 13, 2) := by decide +kernel
theorem dd_M_abortDone_15 : decode mt_M_abortDone.2.1 15 = .ok (.goto 5, 3) := by decide +kernel
theorem dd_M_abortDone_18 : decode mt_M_abortDone.2.1 18 = .ok (.bipush 14, 2) := by decide +kernel
theorem dd_M_abortDone_20 : decode mt_M_abortDone.2.1 20 = .ok (.iload_n 1, 1) := by decide +kernel
theorem dd_M_abortDone_21 : decode mt_M_abortDone.2.1 21 = .ok (.iload_n 2, 1) := by decide +kernel
theorem dd_M_abortDone_22 : decode mt_M_abortDone.2.1 22 = .ok (.iconst (-1), 1) := by decide +kernel
theorem dd_M_abortDone_23 : decode mt_M_abortDone.2.1 23 = .ok (.if_icmp .ne 7, 3) := by decide +kernel
theorem dd_M_abortDone_26 : decode mt_M_abortDone.2.1 26 = .ok (.iconst 0, 1) := by decide +kernel
theorem dd_M_abortDone_27 : decode mt_M_abortDone.2.1 27 = .ok (.goto 4, 3) := by decide +kernel
theorem dd_M_abortDone_30 : decode mt_M_abortDone.2.1 30 = .ok (.iload_n 2, 1) := by decide +kernel
theorem dd_M_abortDone_31 : decode mt_M_abortDone.2.1 31 = .ok (.iconst 0, 1) := by decide +kernel
theorem dd_M_abortDone_32 : decode mt_M_abortDone.2.1 32 = .ok (.invokevirtual 160, 3) := by decide +kernel
theorem dd_M_abortDone_35 : decode mt_M_abortDone.2.1 35 = .ok (.aload_n 0, 1) := by decide +kernel
theorem dd_M_abortDone_36 : decode mt_M_abortDone.2.1 36 = .ok (.getfield 92, 3) := by decide +kernel
theorem dd_M_abortDone_39 : decode mt_M_abortDone.2.1 39 = .ok (.iload_n 1, 1) := by decide +kernel
theorem dd_M_abortDone_40 : decode mt_M_abortDone.2.1 40 = .ok (.baload, 1) := by decide +kernel
theorem dd_M_abortDone_41 : decode mt_M_abortDone.2.1 41 = .ok (.ifCond .eq 24, 3) := by decide +kernel
theorem dd_M_abortDone_44 : decode mt_M_abortDone.2.1 44 = .ok (.aload_n 0, 1) := by decide +kernel
theorem dd_M_abortDone_45 : decode mt_M_abortDone.2.1 45 = .ok (.getfield 92, 3) := by decide +kernel
theorem dd_M_abortDone_48 : decode mt_M_abortDone.2.1 48 = .ok (.iload_n 1, 1) := by decide +kernel
theorem dd_M_abortDone_49 : decode mt_M_abortDone.2.1 49 = .ok (.iconst 0, 1) := by decide +kernel
theorem dd_M_abortDone_50 : decode mt_M_abortDone.2.1 50 = .ok (.bastore, 1) := by decide +kernel
theorem dd_M_abortDone_51 : decode mt_M_abortDone.2.1 51 = .ok (.aload_n 0, 1) := by decide +kernel
theorem dd_M_abortDone_52 : decode mt_M_abortDone.2.1 52 = .ok (.bipush 12, 2) := by decide +kernel
theorem dd_M_abortDone_54 : decode mt_M_abortDone.2.1 54 = .ok (.iload_n 1, 1) := by decide +kernel
theorem dd_M_abortDone_55 : decode mt_M_abortDone.2.1 55 = .ok (.aload_n 0, 1) := by decide +kernel
theorem dd_M_abortDone_56 : decode mt_M_abortDone.2.1 56 = .ok (.getfield 71, 3) := by decide +kernel
theorem dd_M_abortDone_59 : decode mt_M_abortDone.2.1 59 = .ok (.iload_n 1, 1) := by decide +kernel
theorem dd_M_abortDone_60 : decode mt_M_abortDone.2.1 60 = .ok (.iaload, 1) := by decide +kernel
theorem dd_M_abortDone_61 : decode mt_M_abortDone.2.1 61 = .ok (.iconst 0, 1) := by decide +kernel
theorem dd_M_abortDone_62 : decode mt_M_abortDone.2.1 62 = .ok (.invokevirtual 160, 3) := by decide +kernel
theorem dd_M_abortDone_65 : decode mt_M_abortDone.2.1 65 = .ok (.return_, 1) := by decide +kernel
theorem dd_M_abortTaker_0 : decode mt_M_abortTaker.2.1 0 = .ok (.aload_n 0, 1) := by decide +kernel
theorem dd_M_abortTaker_1 : decode mt_M_abortTaker.2.1 1 = .ok (.getfield 68, 3) := by decide +kernel
theorem dd_M_abortTaker_4 : decode mt_M_abortTaker.2.1 4 = .ok (.iload_n 1, 1) := by decide +kernel
theorem dd_M_abortTaker_5 : decode mt_M_abortTaker.2.1 5 = .ok (.iaload, 1) := by decide +kernel
theorem dd_M_abortTaker_6 : decode mt_M_abortTaker.2.1 6 = .ok (.iconst 1, 1) := by decide +kernel
theorem dd_M_abortTaker_7 : decode mt_M_abortTaker.2.1 7 = .ok (.if_icmp .le 15, 3) := by decide +kernel
theorem dd_M_abortTaker_10 : decode mt_M_abortTaker.2.1 10 = .ok (.aload_n 0, 1) := by decide +kernel
theorem dd_M_abortTaker_11 : decode mt_M_abortTaker.2.1 11 = .ok (.bipush 13, 2) := by decide +kernel
theorem dd_M_abortTaker_13 : decode mt_M_abortTaker.2.1 13 = .ok (.iload_n 1, 1) := by decide +kernel
theorem dd_M_abortTaker_14 : decode mt_M_abortTaker.2.1 14 = .ok (.iconst 0, 1) := by decide +kernel
theorem dd_M_abortTaker_15 : decode mt_M_abortTaker.2.1 15 = .ok (.iconst 0, 1) := by decide +kernel
theorem dd_M_abortTaker_16 : decode mt_M_abortTaker.2.1 16 = .ok (.invokevirtual 160, 3) := by decide +kernel
theorem dd_M_abortTaker_19 : decode mt_M_abortTaker.2.1 19 = .ok (.goto 62, 3) := by decide +kernel
theorem dd_M_abortTaker_22 : decode mt_M_abortTaker.2.1 22 = .ok (.aload_n 0, 1) := by decide +kernel
theorem dd_M_abortTaker_23 : decode mt_M_abortTaker.2.1 23 = .ok (.getfield 98, 3) := by decide +kernel
theorem dd_M_abortTaker_26 : decode mt_M_abortTaker.2.1 26 = .ok (.iload_n 1, 1) := by decide +kernel
theorem dd_M_abortTaker_27 : decode mt_M_abortTaker.2.1 27 = .ok (.baload, 1) := by decide +kernel
theorem dd_M_abortTaker_28 : decode mt_M_abortTaker.2.1 28 = .ok (.ifCond .ne 53, 3) := by decide +kernel
theorem dd_M_abortTaker_31 : decode mt_M_abortTaker.2.1 31 = .ok (.aload_n 0, 1) := by decide +kernel
theorem dd_M_abortTaker_32 : decode mt_M_abortTaker.2.1 32 = .ok (.getfield 98, 3) := by decide +kernel
theorem dd_M_abortTaker_35 : decode mt_M_abortTaker.2.1 35 = .ok (.iload_n 1, 1) := by decide +kernel
theorem dd_M_abortTaker_36 : decode mt_M_abortTaker.2.1 36 = .ok (.iconst 1, 1) := by decide +kernel
theorem dd_M_abortTaker_37 : decode mt_M_abortTaker.2.1 37 = .ok (.bastore, 1) := by decide +kernel
theorem dd_M_abortTaker_38 : decode mt_M_abortTaker.2.1 38 = .ok (.aload_n 0, 1) := by decide +kernel
theorem dd_M_abortTaker_39 : decode mt_M_abortTaker.2.1 39 = .ok (.getfield 101, 3) := by decide +kernel
theorem dd_M_abortTaker_42 : decode mt_M_abortTaker.2.1 42 = .ok (.iload_n 1, 1) := by decide +kernel
theorem dd_M_abortTaker_43 : decode mt_M_abortTaker.2.1 43 = .ok (.iload_n 2, 1) := by decide +kernel
theorem dd_M_abortTaker_44 : decode mt_M_abortTaker.2.1 44 = .ok (.iastore, 1) := by decide +kernel
theorem dd_M_abortTaker_45 : decode mt_M_abortTaker.2.1 45 = .ok (.aload_n 0, 1) := by decide +kernel
theorem dd_M_abortTaker_46 : decode mt_M_abortTaker.2.1 46 = .ok (.getfield 104, 3) := by decide +kernel
theorem dd_M_abortTaker_49 : decode mt_M_abortTaker.2.1 49 = .ok (.iload_n 1, 1) := by decide +kernel
theorem dd_M_abortTaker_50 : decode mt_M_abortTaker.2.1 50 = .ok (.aload_n 0, 1) := by decide +kernel
theorem dd_M_abortTaker_51 : decode mt_M_abortTaker.2.1 51 = .ok (.getfield 68, 3) := by decide +kernel
theorem dd_M_abortTaker_54 : decode mt_M_abortTaker.2.1 54 = .ok (.iload_n 1, 1) := by decide +kernel
theorem dd_M_abortTaker_55 : decode mt_M_abortTaker.2.1 55 = .ok (.iaload, 1) := by decide +kernel
theorem dd_M_abortTaker_56 : decode mt_M_abortTaker.2.1 56 = .ok (.iconst 1, 1) := by decide +kernel
theorem dd_M_abortTaker_57 : decode mt_M_abortTaker.2.1 57 = .ok (.if_icmp .ne 7, 3) := by decide +kernel
theorem dd_M_abortTaker_60 : decode mt_M_abortTaker.2.1 60 = .ok (.iconst 1, 1) := by decide +kernel
theorem dd_M_abortTaker_61 : decode mt_M_abortTaker.2.1 61 = .ok (.goto 4, 3) := by decide +kernel
theorem dd_M_abortTaker_64 : decode mt_M_abortTaker.2.1 64 = .ok (.iconst 0, 1) := by decide +kernel
theorem dd_M_abortTaker_65 : decode mt_M_abortTaker.2.1 65 = .ok (.bastore, 1) := by decide +kernel
theorem dd_M_abortTaker_66 : decode mt_M_abortTaker.2.1 66 = .ok (.aload_n 0, 1) := by decide +kernel
theorem dd_M_abortTaker_67 : decode mt_M_abortTaker.2.1 67 = .ok (.getfield 68, 3) := by decide +kernel
theorem dd_M_abortTaker_70 : decode mt_M_abortTaker.2.1 70 = .ok (.iload_n 1, 1) := by decide +kernel
theorem dd_M_abortTaker_71 : decode mt_M_abortTaker.2.1 71 = .ok (.iaload, 1) := by decide +kernel
theorem dd_M_abortTaker_72 : decode mt_M_abortTaker.2.1 72 = .ok (.ifCond .ne 9, 3) := by decide +kernel
theorem dd_M_abortTaker_75 : decode mt_M_abortTaker.2.1 75 = .ok (.aload_n 0, 1) := by decide +kernel
theorem dd_M_abortTaker_76 : decode mt_M_abortTaker.2.1 76 = .ok (.iload_n 1, 1) := by decide +kernel
theorem dd_M_abortTaker_77 : decode mt_M_abortTaker.2.1 77 = .ok (.iload_n 2, 1) := by decide +kernel
theorem dd_M_abortTaker_78 : decode mt_M_abortTaker.2.1 78 = .ok (.invokevirtual 175, 3) := by decide +kernel
theorem dd_M_abortTaker_81 : decode mt_M_abortTaker.2.1 81 = .ok (.return_, 1) := by decide +kernel
theorem dd_M_shutDown_0 : decode mt_M_shutDown.2.1 0 = .ok (.aload_n 0, 1) := by decide +kernel
theorem dd_M_shutDown_1 : decode mt_M_shutDown.2.1 1 = .ok (.getfield 68, 3) := by decide +kernel
theorem dd_M_shutDown_4 : decode mt_M_shutDown.2.1 4 = .ok (.iload_n 1, 1) := by decide +kernel
theorem dd_M_shutDown_5 : decode mt_M_shutDown.2.1 5 = .ok (.iaload, 1) := by decide +kernel
theorem dd_M_shutDown_6 : decode mt_M_shutDown.2.1 6 = .ok (.iconst 2, 1) := by decide +kernel
theorem dd_M_shutDown_7 : decode mt_M_shutDown.2.1 7 = .ok (.if_icmp .ge 34, 3) := by decide +kernel
theorem dd_M_shutDown_10 : decode mt_M_shutDown.2.1 10 = .ok (.aload_n 0, 1) := by decide +kernel
theorem dd_M_shutDown_11 : decode mt_M_shutDown.2.1 11 = .ok (.getfield 92, 3) := by decide +kernel
theorem dd_M_shutDown_14 : decode mt_M_shutDown.2.1 14 = .ok (.iload_n 1, 1) := by decide +kernel
theorem dd_M_shutDown_15 : decode mt_M_shutDown.2.1 15 = .ok (.baload, 1) := by decide +kernel
theorem dd_M_shutDown_16 : decode mt_M_shutDown.2.1 16 = .ok (.ifCond .ne 25, 3) := by decide +kernel
theorem dd_M_shutDown_19 : decode mt_M_shutDown.2.1 19 = .ok (.aload_n 0, 1) := by decide +kernel
theorem dd_M_shutDown_20 : decode mt_M_shutDown.2.1 20 = .ok (.getfield 95, 3) := by decide +kernel
theorem dd_M_shutDown_23 : decode mt_M_shutDown.2.1 23 = .ok (.iload_n 1, 1) := by decide +kernel
theorem dd_M_shutDown_24 : decode mt_M_shutDown.2.1 24 = .ok (.iaload, 1) := by decide +kernel
theorem dd_M_shutDown_25 : decode mt_M_shutDown.2.1 25 = .ok (.iconst 4, 1) := by decide +kernel
theorem dd_M_shutDown_26 : decode mt_M_shutDown.2.1 26 = .ok (.if_icmp .eq 15, 3) := by decide +kernel
theorem dd_M_shutDown_29 : decode mt_M_shutDown.2.1 29 = .ok (.aload_n 0, 1) := by decide +kernel
theorem dd_M_shutDown_30 : decode mt_M_shutDown.2.1 30 = .ok (.getfield 92, 3) := by decide +kernel
theorem dd_M_shutDown_33 : decode mt_M_shutDown.2.1 33 = .ok (.iload_n 1, 1) := by decide +kernel
theorem dd_M_shutDown_34 : decode mt_M_shutDown.2.1 34 = .ok (.iconst 1, 1) := by decide +kernel
theorem dd_M_shutDown_35 : decode mt_M_shutDown.2.1 35 = .ok (.bastore, 1) := by decide +kernel
theorem dd_M_shutDown_36 : decode mt_M_shutDown.2.1 36 = .ok (.aload_n 0, 1) := by decide +kernel
theorem dd_M_shutDown_37 : decode mt_M_shutDown.2.1 37 = .ok (.iload_n 1, 1) := by decide +kernel
theorem dd_M_shutDown_38 : decode mt_M_shutDown.2.1 38 = .ok (.invokevirtual 168, 3) := by decide +kernel
theorem dd_M_shutDown_41 : decode mt_M_shutDown.2.1 41 = .ok (.return_, 1) := by decide +kernel
theorem dd_M_room_0 : decode mt_M_room.2.1 0 = .ok (.aload_n 0, 1) := by decide +kernel
theorem dd_M_room_1 : decode mt_M_room.2.1 1 = .ok (.getfield 16, 3) := by decide +kernel
theorem dd_M_room_4 : decode mt_M_room.2.1 4 = .ok (.iload_n 1, 1) := by decide +kernel
theorem dd_M_room_5 : decode mt_M_room.2.1 5 = .ok (.iaload, 1) := by decide +kernel
theorem dd_M_room_6 : decode mt_M_room.2.1 6 = .ok (.istore_n 2, 1) := by decide +kernel
theorem dd_M_room_7 : decode mt_M_room.2.1 7 = .ok (.iconst 0, 1) := by decide +kernel
theorem dd_M_room_8 : decode mt_M_room.2.1 8 = .ok (.istore_n 3, 1) := by decide +kernel
theorem dd_M_room_9 : decode mt_M_room.2.1 9 = .ok (.iload_n 3, 1) := by decide +kernel
theorem dd_M_room_10 : decode mt_M_room.2.1 10 = .ok (.aload_n 0, 1) := by decide +kernel
theorem dd_M_room_11 : decode mt_M_room.2.1 11 = .ok (.getfield 38, 3) := by decide +kernel
theorem dd_M_room_14 : decode mt_M_room.2.1 14 = .ok (.iload_n 1, 1) := by decide +kernel
theorem dd_M_room_15 : decode mt_M_room.2.1 15 = .ok (.iaload, 1) := by decide +kernel
theorem dd_M_room_16 : decode mt_M_room.2.1 16 = .ok (.if_icmp .ge 33, 3) := by decide +kernel
theorem dd_M_room_19 : decode mt_M_room.2.1 19 = .ok (.iload_n 2, 1) := by decide +kernel
theorem dd_M_room_20 : decode mt_M_room.2.1 20 = .ok (.aload_n 0, 1) := by decide +kernel
theorem dd_M_room_21 : decode mt_M_room.2.1 21 = .ok (.aload_n 0, 1) := by decide +kernel
theorem dd_M_room_22 : decode mt_M_room.2.1 22 = .ok (.getfield 35, 3) := by decide +kernel
theorem dd_M_room_25 : decode mt_M_room.2.1 25 = .ok (.bipush 16, 2) := by decide +kernel
theorem dd_M_room_27 : decode mt_M_room.2.1 27 = .ok (.iload_n 1, 1) := by decide +kernel
theorem dd_M_room_28 : decode mt_M_room.2.1 28 = .ok (.imul, 1) := by decide +kernel
theorem dd_M_room_29 : decode mt_M_room.2.1 29 = .ok (.iload_n 3, 1) := by decide +kernel
theorem dd_M_room_30 : decode mt_M_room.2.1 30 = .ok (.iadd, 1) := by decide +kernel
theorem dd_M_room_31 : decode mt_M_room.2.1 31 = .ok (.iaload, 1) := by decide +kernel
theorem dd_M_room_32 : decode mt_M_room.2.1 32 = .ok (.aload_n 0, 1) := by decide +kernel
theorem dd_M_room_33 : decode mt_M_room.2.1 33 = .ok (.getfield 19, 3) := by decide +kernel
theorem dd_M_room_36 : decode mt_M_room.2.1 36 = .ok (.iload_n 1, 1) := by decide +kernel
theorem dd_M_room_37 : decode mt_M_room.2.1 37 = .ok (.baload, 1) := by decide +kernel
theorem dd_M_room_38 : decode mt_M_room.2.1 38 = .ok (.invokevirtual 156, 3) := by decide +kernel
theorem dd_M_room_41 : decode mt_M_room.2.1 41 = .ok (.isub, 1) := by decide +kernel
theorem dd_M_room_42 : decode mt_M_room.2.1 42 = .ok (.istore_n 2, 1) := by decide +kernel
theorem dd_M_room_43 : decode mt_M_room.2.1 43 = .ok (.iinc 3 1, 3) := by decide +kernel
theorem dd_M_room_46 : decode mt_M_room.2.1 46 = .ok (.goto (-37), 3) := by decide +kernel
theorem dd_M_room_49 : decode mt_M_room.2.1 49 = .ok (.iload_n 2, 1) := by decide +kernel
theorem dd_M_room_50 : decode mt_M_room.2.1 50 = .ok (.ireturn, 1) := by decide +kernel
theorem dd_M_isBranch_0 : decode mt_M_isBranch.2.1 0 = .ok (.aload_n 0, 1) := by decide +kernel
theorem dd_M_isBranch_1 : decode mt_M_isBranch.2.1 1 = .ok (.getfield 56, 3) := by decide +kernel
theorem dd_M_isBranch_4 : decode mt_M_isBranch.2.1 4 = .ok (.iload_n 1, 1) := by decide +kernel
theorem dd_M_isBranch_5 : decode mt_M_isBranch.2.1 5 = .ok (.iaload, 1) := by decide +kernel
theorem dd_M_isBranch_6 : decode mt_M_isBranch.2.1 6 = .ok (.ifCond .lt 7, 3) := by decide +kernel
theorem dd_M_isBranch_9 : decode mt_M_isBranch.2.1 9 = .ok (.iconst 1, 1) := by decide +kernel
theorem dd_M_isBranch_10 : decode mt_M_isBranch.2.1 10 = .ok (.goto 4, 3) := by decide +kernel
theorem dd_M_isBranch_13 : decode mt_M_isBranch.2.1 13 = .ok (.iconst 0, 1) := by decide +kernel
theorem dd_M_isBranch_14 : decode mt_M_isBranch.2.1 14 = .ok (.ireturn, 1) := by decide +kernel
theorem dd_M_answer_0 : decode mt_M_answer.2.1 0 = .ok (.iload_n 2, 1) := by decide +kernel
theorem dd_M_answer_1 : decode mt_M_answer.2.1 1 = .ok (.ifCond .le 15, 3) := by decide +kernel
theorem dd_M_answer_4 : decode mt_M_answer.2.1 4 = .ok (.aload_n 0, 1) := by decide +kernel
theorem dd_M_answer_5 : decode mt_M_answer.2.1 5 = .ok (.bipush 6, 2) := by decide +kernel
theorem dd_M_answer_7 : decode mt_M_answer.2.1 7 = .ok (.iload_n 1, 1) := by decide +kernel
theorem dd_M_answer_8 : decode mt_M_answer.2.1 8 = .ok (.iload_n 2, 1) := by decide +kernel
theorem dd_M_answer_9 : decode mt_M_answer.2.1 9 = .ok (.iload_n 3, 1) := by decide +kernel
theorem dd_M_answer_10 : decode mt_M_answer.2.1 10 = .ok (.invokevirtual 160, 3) := by decide +kernel
theorem dd_M_answer_13 : decode mt_M_answer.2.1 13 = .ok (.goto 35, 3) := by decide +kernel
theorem dd_M_answer_16 : decode mt_M_answer.2.1 16 = .ok (.iload_n 2, 1) := by decide +kernel
theorem dd_M_answer_17 : decode mt_M_answer.2.1 17 = .ok (.bipush (-10), 2) := by decide +kernel
theorem dd_M_answer_19 : decode mt_M_answer.2.1 19 = .ok (.if_icmp .ne 13, 3) := by decide +kernel
theorem dd_M_answer_22 : decode mt_M_answer.2.1 22 = .ok (.aload_n 0, 1) := by decide +kernel
theorem dd_M_answer_23 : decode mt_M_answer.2.1 23 = .ok (.iconst 2, 1) := by decide +kernel
theorem dd_M_answer_24 : decode mt_M_answer.2.1 24 = .ok (.iload_n 1, 1) := by decide +kernel
theorem dd_M_answer_25 : decode mt_M_answer.2.1 25 = .ok (.iload_n 3, 1) := by decide +kernel
theorem dd_M_answer_26 : decode mt_M_answer.2.1 26 = .ok (.invokevirtual 178, 3) := by decide +kernel
theorem dd_M_answer_29 : decode mt_M_answer.2.1 29 = .ok (.goto 19, 3) := by decide +kernel
theorem dd_M_answer_32 : decode mt_M_answer.2.1 32 = .ok (.aload_n 0, 1) := by decide +kernel
theorem dd_M_answer_33 : decode mt_M_answer.2.1 33 = .ok (.aload_n 0, 1) := by decide +kernel
theorem dd_M_answer_34 : decode mt_M_answer.2.1 34 = .ok (.getfield 116, 3) := by decide +kernel
theorem dd_M_answer_37 : decode mt_M_answer.2.1 37 = .ok (.bipush (-2), 2) := by decide +kernel
theorem dd_M_answer_39 : decode mt_M_answer.2.1 39 = .ok (.iload_n 2, 1) := by decide +kernel
theorem dd_M_answer_40 : decode mt_M_answer.2.1 40 = .ok (.isub, 1) := by decide +kernel
theorem dd_M_answer_41 : decode mt_M_answer.2.1 41 = .ok (.iaload, 1) := by decide +kernel
theorem dd_M_answer_42 : decode mt_M_answer.2.1 42 = .ok (.iload_n 3, 1) := by decide +kernel
theorem dd_M_answer_43 : decode mt_M_answer.2.1 43 = .ok (.invokevirtual 182, 3) := by decide +kernel
theorem dd_M_answer_46 : decode mt_M_answer.2.1 46 = .ok (.istore 4, 2) := by decide +kernel
theorem dd_M_answer_48 : decode mt_M_answer.2.1 48 = .ok (.return_, 1) := by decide +kernel
theorem dd_M_takeRequest_0 : decode mt_M_takeRequest.2.1 0 = .ok (.aload_n 0, 1) := by decide +kernel
theorem dd_M_takeRequest_1 : decode mt_M_takeRequest.2.1 1 = .ok (.getfield 41, 3) := by decide +kernel
theorem dd_M_takeRequest_4 : decode mt_M_takeRequest.2.1 4 = .ok (.bipush 8, 2) := by decide +kernel
theorem dd_M_takeRequest_6 : decode mt_M_takeRequest.2.1 6 = .ok (.iload_n 1, 1) := by decide +kernel
theorem dd_M_takeRequest_7 : decode mt_M_takeRequest.2.1 7 = .ok (.imul, 1) := by decide +kernel
theorem dd_M_takeRequest_8 : decode mt_M_takeRequest.2.1 8 = .ok (.iaload, 1) := by decide +kernel
theorem dd_M_takeRequest_9 : decode mt_M_takeRequest.2.1 9 = .ok (.istore_n 2, 1) := by decide +kernel
theorem dd_M_takeRequest_10 : decode mt_M_takeRequest.2.1 10 = .ok (.aload_n 0, 1) := by decide +kernel
theorem dd_M_takeRequest_11 : decode mt_M_takeRequest.2.1 11 = .ok (.getfield 44, 3) := by decide +kernel
theorem dd_M_takeRequest_14 : decode mt_M_takeRequest.2.1 14 = .ok (.iload_n 1, 1) := by decide +kernel
theorem dd_M_takeRequest_15 : decode mt_M_takeRequest.2.1 15 = .ok (.dup2, 1) := by decide +kernel
theorem dd_M_takeRequest_16 : decode mt_M_takeRequest.2.1 16 = .ok (.iaload, 1) := by decide +kernel
theorem dd_M_takeRequest_17 : decode mt_M_takeRequest.2.1 17 = .ok (.iconst 1, 1) := by decide +kernel
theorem dd_M_takeRequest_18 : decode mt_M_takeRequest.2.1 18 = .ok (.isub, 1) := by decide +kernel
theorem dd_M_takeRequest_19 : decode mt_M_takeRequest.2.1 19 = .ok (.iastore, 1) := by decide +kernel
theorem dd_M_takeRequest_20 : decode mt_M_takeRequest.2.1 20 = .ok (.bipush 8, 2) := by decide +kernel
theorem dd_M_takeRequest_22 : decode mt_M_takeRequest.2.1 22 = .ok (.iload_n 1, 1) := by decide +kernel
theorem dd_M_takeRequest_23 : decode mt_M_takeRequest.2.1 23 = .ok (.imul, 1) := by decide +kernel
theorem dd_M_takeRequest_24 : decode mt_M_takeRequest.2.1 24 = .ok (.istore_n 3, 1) := by decide +kernel
theorem dd_M_takeRequest_25 : decode mt_M_takeRequest.2.1 25 = .ok (.iload_n 3, 1) := by decide +kernel
theorem dd_M_takeRequest_26 : decode mt_M_takeRequest.2.1 26 = .ok (.bipush 8, 2) := by decide +kernel
theorem dd_M_takeRequest_28 : decode mt_M_takeRequest.2.1 28 = .ok (.iload_n 1, 1) := by decide +kernel
theorem dd_M_takeRequest_29 : decode mt_M_takeRequest.2.1 29 = .ok (.imul, 1) := by decide +kernel
theorem dd_M_takeRequest_30 : decode mt_M_takeRequest.2.1 30 = .ok (.aload_n 0, 1) := by decide +kernel
theorem dd_M_takeRequest_31 : decode mt_M_takeRequest.2.1 31 = .ok (.getfield 44, 3) := by decide +kernel
theorem dd_M_takeRequest_34 : decode mt_M_takeRequest.2.1 34 = .ok (.iload_n 1, 1) := by decide +kernel
theorem dd_M_takeRequest_35 : decode mt_M_takeRequest.2.1 35 = .ok (.iaload, 1) := by decide +kernel
theorem dd_M_takeRequest_36 : decode mt_M_takeRequest.2.1 36 = .ok (.iadd, 1) := by decide +kernel
theorem dd_M_takeRequest_37 : decode mt_M_takeRequest.2.1 37 = .ok (.if_icmp .ge 23, 3) := by decide +kernel
theorem dd_M_takeRequest_40 : decode mt_M_takeRequest.2.1 40 = .ok (.aload_n 0, 1) := by decide +kernel
theorem dd_M_takeRequest_41 : decode mt_M_takeRequest.2.1 41 = .ok (.getfield 41, 3) := by decide +kernel
theorem dd_M_takeRequest_44 : decode mt_M_takeRequest.2.1 44 = .ok (.iload_n 3, 1) := by decide +kernel
theorem dd_M_takeRequest_45 : decode mt_M_takeRequest.2.1 45 = .ok (.aload_n 0, 1) := by decide +kernel
theorem dd_M_takeRequest_46 : decode mt_M_takeRequest.2.1 46 = .ok (.getfield 41, 3) := by decide +kernel
theorem dd_M_takeRequest_49 : decode mt_M_takeRequest.2.1 49 = .ok (.iload_n 3, 1) := by decide +kernel
theorem dd_M_takeRequest_50 : decode mt_M_takeRequest.2.1 50 = .ok (.iconst 1, 1) := by decide +kernel
theorem dd_M_takeRequest_51 : decode mt_M_takeRequest.2.1 51 = .ok (.iadd, 1) := by decide +kernel
theorem dd_M_takeRequest_52 : decode mt_M_takeRequest.2.1 52 = .ok (.iaload, 1) := by decide +kernel
theorem dd_M_takeRequest_53 : decode mt_M_takeRequest.2.1 53 = .ok (.iastore, 1) := by decide +kernel
theorem dd_M_takeRequest_54 : decode mt_M_takeRequest.2.1 54 = .ok (.iinc 3 1, 3) := by decide +kernel
theorem dd_M_takeRequest_57 : decode mt_M_takeRequest.2.1 57 = .ok (.goto (-32), 3) := by decide +kernel
theorem dd_M_takeRequest_60 : decode mt_M_takeRequest.2.1 60 = .ok (.iload_n 2, 1) := by decide +kernel
theorem dd_M_takeRequest_61 : decode mt_M_takeRequest.2.1 61 = .ok (.ireturn, 1) := by decide +kernel
theorem dd_M_takeChunk_0 : decode mt_M_takeChunk.2.1 0 = .ok (.aload_n 0, 1) := by decide +kernel
theorem dd_M_takeChunk_1 : decode mt_M_takeChunk.2.1 1 = .ok (.getfield 35, 3) := by decide +kernel
theorem dd_M_takeChunk_4 : decode mt_M_takeChunk.2.1 4 = .ok (.bipush 16, 2) := by decide +kernel
theorem dd_M_takeChunk_6 : decode mt_M_takeChunk.2.1 6 = .ok (.iload_n 1, 1) := by decide +kernel
theorem dd_M_takeChunk_7 : decode mt_M_takeChunk.2.1 7 = .ok (.imul, 1) := by decide +kernel
theorem dd_M_takeChunk_8 : decode mt_M_takeChunk.2.1 8 = .ok (.iaload, 1) := by decide +kernel
theorem dd_M_takeChunk_9 : decode mt_M_takeChunk.2.1 9 = .ok (.istore_n 2, 1) := by decide +kernel
theorem dd_M_takeChunk_10 : decode mt_M_takeChunk.2.1 10 = .ok (.aload_n 0, 1) := by decide +kernel
theorem dd_M_takeChunk_11 : decode mt_M_takeChunk.2.1 11 = .ok (.getfield 38, 3) := by decide +kernel
theorem dd_M_takeChunk_14 : decode mt_M_takeChunk.2.1 14 = .ok (.iload_n 1, 1) := by decide +kernel
theorem dd_M_takeChunk_15 : decode mt_M_takeChunk.2.1 15 = .ok (.dup2, 1) := by decide +kernel
theorem dd_M_takeChunk_16 : decode mt_M_takeChunk.2.1 16 = .ok (.iaload, 1) := by decide +kernel
theorem dd_M_takeChunk_17 : decode mt_M_takeChunk.2.1 17 = .ok (.iconst 1, 1) := by decide +kernel
theorem dd_M_takeChunk_18 : decode mt_M_takeChunk.2.1 18 = .ok (.isub, 1) := by decide +kernel
theorem dd_M_takeChunk_19 : decode mt_M_takeChunk.2.1 19 = .ok (.iastore, 1) := by decide +kernel
theorem dd_M_takeChunk_20 : decode mt_M_takeChunk.2.1 20 = .ok (.bipush 16, 2) := by decide +kernel
theorem dd_M_takeChunk_22 : decode mt_M_takeChunk.2.1 22 = .ok (.iload_n 1, 1) := by decide +kernel
theorem dd_M_takeChunk_23 : decode mt_M_takeChunk.2.1 23 = .ok (.imul, 1) := by decide +kernel
theorem dd_M_takeChunk_24 : decode mt_M_takeChunk.2.1 24 = .ok (.istore_n 3, 1) := by decide +kernel
theorem dd_M_takeChunk_25 : decode mt_M_takeChunk.2.1 25 = .ok (.iload_n 3, 1) := by decide +kernel
theorem dd_M_takeChunk_26 : decode mt_M_takeChunk.2.1 26 = .ok (.bipush 16, 2) := by decide +kernel
theorem dd_M_takeChunk_28 : decode mt_M_takeChunk.2.1 28 = .ok (.iload_n 1, 1) := by decide +kernel
theorem dd_M_takeChunk_29 : decode mt_M_takeChunk.2.1 29 = .ok (.imul, 1) := by decide +kernel
theorem dd_M_takeChunk_30 : decode mt_M_takeChunk.2.1 30 = .ok (.aload_n 0, 1) := by decide +kernel
theorem dd_M_takeChunk_31 : decode mt_M_takeChunk.2.1 31 = .ok (.getfield 38, 3) := by decide +kernel
theorem dd_M_takeChunk_34 : decode mt_M_takeChunk.2.1 34 = .ok (.iload_n 1, 1) := by decide +kernel
theorem dd_M_takeChunk_35 : decode mt_M_takeChunk.2.1 35 = .ok (.iaload, 1) := by decide +kernel
theorem dd_M_takeChunk_36 : decode mt_M_takeChunk.2.1 36 = .ok (.iadd, 1) := by decide +kernel
theorem dd_M_takeChunk_37 : decode mt_M_takeChunk.2.1 37 = .ok (.if_icmp .ge 23, 3) := by decide +kernel
theorem dd_M_takeChunk_40 : decode mt_M_takeChunk.2.1 40 = .ok (.aload_n 0, 1) := by decide +kernel
theorem dd_M_takeChunk_41 : decode mt_M_takeChunk.2.1 41 = .ok (.getfield 35, 3) := by decide +kernel
theorem dd_M_takeChunk_44 : decode mt_M_takeChunk.2.1 44 = .ok (.iload_n 3, 1) := by decide +kernel
theorem dd_M_takeChunk_45 : decode mt_M_takeChunk.2.1 45 = .ok (.aload_n 0, 1) := by decide +kernel
theorem dd_M_takeChunk_46 : decode mt_M_takeChunk.2.1 46 = .ok (.getfield 35, 3) := by decide +kernel
theorem dd_M_takeChunk_49 : decode mt_M_takeChunk.2.1 49 = .ok (.iload_n 3, 1) := by decide +kernel
theorem dd_M_takeChunk_50 : decode mt_M_takeChunk.2.1 50 = .ok (.iconst 1, 1) := by decide +kernel
theorem dd_M_takeChunk_51 : decode mt_M_takeChunk.2.1 51 = .ok (.iadd, 1) := by decide +kernel
theorem dd_M_takeChunk_52 : decode mt_M_takeChunk.2.1 52 = .ok (.iaload, 1) := by decide +kernel
theorem dd_M_takeChunk_53 : decode mt_M_takeChunk.2.1 53 = .ok (.iastore, 1) := by decide +kernel
theorem dd_M_takeChunk_54 : decode mt_M_takeChunk.2.1 54 = .ok (.iinc 3 1, 3) := by decide +kernel
theorem dd_M_takeChunk_57 : decode mt_M_takeChunk.2.1 57 = .ok (.goto (-32), 3) := by decide +kernel
theorem dd_M_takeChunk_60 : decode mt_M_takeChunk.2.1 60 = .ok (.iload_n 2, 1) := by decide +kernel
theorem dd_M_takeChunk_61 : decode mt_M_takeChunk.2.1 61 = .ok (.ireturn, 1) := by decide +kernel
theorem dd_M_closePlain_0 : decode mt_M_closePlain.2.1 0 = .ok (.aload_n 0, 1) := by decide +kernel
theorem dd_M_closePlain_1 : decode mt_M_closePlain.2.1 1 = .ok (.getfield 7, 3) := by decide +kernel
theorem dd_M_closePlain_4 : decode mt_M_closePlain.2.1 4 = .ok (.iload_n 1, 1) := by decide +kernel
theorem dd_M_closePlain_5 : decode mt_M_closePlain.2.1 5 = .ok (.iconst 1, 1) := by decide +kernel
theorem dd_M_closePlain_6 : decode mt_M_closePlain.2.1 6 = .ok (.iastore, 1) := by decide +kernel
theorem dd_M_closePlain_7 : decode mt_M_closePlain.2.1 7 = .ok (.iconst 0, 1) := by decide +kernel
theorem dd_M_closePlain_8 : decode mt_M_closePlain.2.1 8 = .ok (.istore_n 2, 1) := by decide +kernel
theorem dd_M_closePlain_9 : decode mt_M_closePlain.2.1 9 = .ok (.iload_n 2, 1) := by decide +kernel
theorem dd_M_closePlain_10 : decode mt_M_closePlain.2.1 10 = .ok (.aload_n 0, 1) := by decide +kernel
theorem dd_M_closePlain_11 : decode mt_M_closePlain.2.1 11 = .ok (.getfield 44, 3) := by decide +kernel
theorem dd_M_closePlain_14 : decode mt_M_closePlain.2.1 14 = .ok (.iload_n 1, 1) := by decide +kernel
theorem dd_M_closePlain_15 : decode mt_M_closePlain.2.1 15 = .ok (.iaload, 1) := by decide +kernel
theorem dd_M_closePlain_16 : decode mt_M_closePlain.2.1 16 = .ok (.if_icmp .ge 34, 3) := by decide +kernel
theorem dd_M_closePlain_19 : decode mt_M_closePlain.2.1 19 = .ok (.aload_n 0, 1) := by decide +kernel
theorem dd_M_closePlain_20 : decode mt_M_closePlain.2.1 20 = .ok (.getfield 41, 3) := by decide +kernel
theorem dd_M_closePlain_23 : decode mt_M_closePlain.2.1 23 = .ok (.bipush 8, 2) := by decide +kernel
theorem dd_M_closePlain_25 : decode mt_M_closePlain.2.1 25 = .ok (.iload_n 1, 1) := by decide +kernel
theorem dd_M_closePlain_26 : decode mt_M_closePlain.2.1 26 = .ok (.imul, 1) := by decide +kernel
theorem dd_M_closePlain_27 : decode mt_M_closePlain.2.1 27 = .ok (.iload_n 2, 1) := by decide +kernel
theorem dd_M_closePlain_28 : decode mt_M_closePlain.2.1 28 = .ok (.iadd, 1) := by decide +kernel
theorem dd_M_closePlain_29 : decode mt_M_closePlain.2.1 29 = .ok (.iaload, 1) := by decide +kernel
theorem dd_M_closePlain_30 : decode mt_M_closePlain.2.1 30 = .ok (.istore_n 3, 1) := by decide +kernel
theorem dd_M_closePlain_31 : decode mt_M_closePlain.2.1 31 = .ok (.iload_n 3, 1) := by decide +kernel
theorem dd_M_closePlain_32 : decode mt_M_closePlain.2.1 32 = .ok (.ifCond .le 12, 3) := by decide +kernel
theorem dd_M_closePlain_35 : decode mt_M_closePlain.2.1 35 = .ok (.aload_n 0, 1) := by decide +kernel
theorem dd_M_closePlain_36 : decode mt_M_closePlain.2.1 36 = .ok (.bipush 7, 2) := by decide +kernel
theorem dd_M_closePlain_38 : decode mt_M_closePlain.2.1 38 = .ok (.iload_n 1, 1) := by decide +kernel
theorem dd_M_closePlain_39 : decode mt_M_closePlain.2.1 39 = .ok (.iload_n 3, 1) := by decide +kernel
theorem dd_M_closePlain_40 : decode mt_M_closePlain.2.1 40 = .ok (.iconst 0, 1) := by decide +kernel
theorem dd_M_closePlain_41 : decode mt_M_closePlain.2.1 41 = .ok (.invokevirtual 160, 3) := by decide +kernel
theorem dd_M_closePlain_44 : decode mt_M_closePlain.2.1 44 = .ok (.iinc 2 1, 3) := by decide +kernel
theorem dd_M_closePlain_47 : decode mt_M_closePlain.2.1 47 = .ok (.goto (-38), 3) := by decide +kernel
theorem dd_M_closePlain_50 : decode mt_M_closePlain.2.1 50 = .ok (.aload_n 0, 1) := by decide +kernel
theorem dd_M_closePlain_51 : decode mt_M_closePlain.2.1 51 = .ok (.getfield 44, 3) := by decide +kernel
theorem dd_M_closePlain_54 : decode mt_M_closePlain.2.1 54 = .ok (.iload_n 1, 1) := by decide +kernel
theorem dd_M_closePlain_55 : decode mt_M_closePlain.2.1 55 = .ok (.iconst 0, 1) := by decide +kernel
theorem dd_M_closePlain_56 : decode mt_M_closePlain.2.1 56 = .ok (.iastore, 1) := by decide +kernel
theorem dd_M_closePlain_57 : decode mt_M_closePlain.2.1 57 = .ok (.return_, 1) := by decide +kernel
theorem dd_M_endBranches_0 : decode mt_M_endBranches.2.1 0 = .ok (.aload_n 0, 1) := by decide +kernel
theorem dd_M_endBranches_1 : decode mt_M_endBranches.2.1 1 = .ok (.getfield 53, 3) := by decide +kernel
theorem dd_M_endBranches_4 : decode mt_M_endBranches.2.1 4 = .ok (.iload_n 1, 1) := by decide +kernel
theorem dd_M_endBranches_5 : decode mt_M_endBranches.2.1 5 = .ok (.iaload, 1) := by decide +kernel
theorem dd_M_endBranches_6 : decode mt_M_endBranches.2.1 6 = .ok (.istore_n 2, 1) := by decide +kernel
theorem dd_M_endBranches_7 : decode mt_M_endBranches.2.1 7 = .ok (.iload_n 2, 1) := by decide +kernel
theorem dd_M_endBranches_8 : decode mt_M_endBranches.2.1 8 = .ok (.aload_n 0, 1) := by decide +kernel
theorem dd_M_endBranches_9 : decode mt_M_endBranches.2.1 9 = .ok (.getfield 53, 3) := by decide +kernel
theorem dd_M_endBranches_12 : decode mt_M_endBranches.2.1 12 = .ok (.iload_n 1, 1) := by decide +kernel
theorem dd_M_endBranches_13 : decode mt_M_endBranches.2.1 13 = .ok (.iaload, 1) := by decide +kernel
theorem dd_M_endBranches_14 : decode mt_M_endBranches.2.1 14 = .ok (.iconst 2, 1) := by decide +kernel
theorem dd_M_endBranches_15 : decode mt_M_endBranches.2.1 15 = .ok (.iadd, 1) := by decide +kernel
theorem dd_M_endBranches_16 : decode mt_M_endBranches.2.1 16 = .ok (.if_icmp .ge 48, 3) := by decide +kernel
theorem dd_M_endBranches_19 : decode mt_M_endBranches.2.1 19 = .ok (.aload_n 0, 1) := by decide +kernel
theorem dd_M_endBranches_20 : decode mt_M_endBranches.2.1 20 = .ok (.getfield 7, 3) := by decide +kernel
theorem dd_M_endBranches_23 : decode mt_M_endBranches.2.1 23 = .ok (.iload_n 2, 1) := by decide +kernel
theorem dd_M_endBranches_24 : decode mt_M_endBranches.2.1 24 = .ok (.iaload, 1) := by decide +kernel
theorem dd_M_endBranches_25 : decode mt_M_endBranches.2.1 25 = .ok (.ifCond .ne 33, 3) := by decide +kernel
theorem dd_M_endBranches_28 : decode mt_M_endBranches.2.1 28 = .ok (.aload_n 0, 1) := by decide +kernel
theorem dd_M_endBranches_29 : decode mt_M_endBranches.2.1 29 = .ok (.getfield 23, 3) := by decide +kernel
theorem dd_M_endBranches_32 : decode mt_M_endBranches.2.1 32 = .ok (.iload_n 2, 1) := by decide +kernel
theorem dd_M_endBranches_33 : decode mt_M_endBranches.2.1 33 = .ok (.baload, 1) := by decide +kernel
theorem dd_M_endBranches_34 : decode mt_M_endBranches.2.1 34 = .ok (.ifCond .ne 24, 3) := by decide +kernel
theorem dd_M_endBranches_37 : decode mt_M_endBranches.2.1 37 = .ok (.aload_n 0, 1) := by decide +kernel
theorem dd_M_endBranches_38 : decode mt_M_endBranches.2.1 38 = .ok (.getfield 23, 3) := by decide +kernel
theorem dd_M_endBranches_41 : decode mt_M_endBranches.2.1 41 = .ok (.iload_n 2, 1) := by decide +kernel
theorem dd_M_endBranches_42 : decode mt_M_endBranches.2.1 42 = .ok (.iconst 1, 1) := by decide +kernel
theorem dd_M_endBranches_43 : decode mt_M_endBranches.2.1 43 = .ok (.bastore, 1) := by decide +kernel
theorem dd_M_endBranches_44 : decode mt_M_endBranches.2.1 44 = .ok (.aload_n 0, 1) := by decide +kernel
theorem dd_M_endBranches_45 : decode mt_M_endBranches.2.1 45 = .ok (.getfield 38, 3) := by decide +kernel
theorem dd_M_endBranches_48 : decode mt_M_endBranches.2.1 48 = .ok (.iload_n 2, 1) := by decide +kernel
theorem dd_M_endBranches_49 : decode mt_M_endBranches.2.1 49 = .ok (.iaload, 1) := by decide +kernel
theorem dd_M_endBranches_50 : decode mt_M_endBranches.2.1 50 = .ok (.ifCond .ne 8, 3) := by decide +kernel
theorem dd_M_endBranches_53 : decode mt_M_endBranches.2.1 53 = .ok (.aload_n 0, 1) := by decide +kernel
theorem dd_M_endBranches_54 : decode mt_M_endBranches.2.1 54 = .ok (.iload_n 2, 1) := by decide +kernel
theorem dd_M_endBranches_55 : decode mt_M_endBranches.2.1 55 = .ok (.invokevirtual 186, 3) := by decide +kernel
theorem dd_M_endBranches_58 : decode mt_M_endBranches.2.1 58 = .ok (.iinc 2 1, 3) := by decide +kernel
theorem dd_M_endBranches_61 : decode mt_M_endBranches.2.1 61 = .ok (.goto (-54), 3) := by decide +kernel
theorem dd_M_endBranches_64 : decode mt_M_endBranches.2.1 64 = .ok (.return_, 1) := by decide +kernel
theorem dd_M_close_0 : decode mt_M_close.2.1 0 = .ok (.aload_n 0, 1) := by decide +kernel
theorem dd_M_close_1 : decode mt_M_close.2.1 1 = .ok (.getfield 44, 3) := by decide +kernel
theorem dd_M_close_4 : decode mt_M_close.2.1 4 = .ok (.iload_n 1, 1) := by decide +kernel
theorem dd_M_close_5 : decode mt_M_close.2.1 5 = .ok (.iaload, 1) := by decide +kernel
theorem dd_M_close_6 : decode mt_M_close.2.1 6 = .ok (.ifCond .le 21, 3) := by decide +kernel
theorem dd_M_close_9 : decode mt_M_close.2.1 9 = .ok (.aload_n 0, 1) := by decide +kernel
theorem dd_M_close_10 : decode mt_M_close.2.1 10 = .ok (.getfield 41, 3) := by decide +kernel
theorem dd_M_close_13 : decode mt_M_close.2.1 13 = .ok (.bipush 8, 2) := by decide +kernel
theorem dd_M_close_15 : decode mt_M_close.2.1 15 = .ok (.iload_n 1, 1) := by decide +kernel
theorem dd_M_close_16 : decode mt_M_close.2.1 16 = .ok (.imul, 1) := by decide +kernel
theorem dd_M_close_17 : decode mt_M_close.2.1 17 = .ok (.iaload, 1) := by decide +kernel
theorem dd_M_close_18 : decode mt_M_close.2.1 18 = .ok (.bipush (-10), 2) := by decide +kernel
theorem dd_M_close_20 : decode mt_M_close.2.1 20 = .ok (.if_icmp .ne 7, 3) := by decide +kernel
theorem dd_M_close_23 : decode mt_M_close.2.1 23 = .ok (.iconst 1, 1) := by decide +kernel
theorem dd_M_close_24 : decode mt_M_close.2.1 24 = .ok (.goto 4, 3) := by decide +kernel
theorem dd_M_close_27 : decode mt_M_close.2.1 27 = .ok (.iconst 0, 1) := by decide +kernel
theorem dd_M_close_28 : decode mt_M_close.2.1 28 = .ok (.istore_n 2, 1) := by decide +kernel
theorem dd_M_close_29 : decode mt_M_close.2.1 29 = .ok (.aload_n 0, 1) := by decide +kernel
theorem dd_M_close_30 : decode mt_M_close.2.1 30 = .ok (.getfield 44, 3) := by decide +kernel
theorem dd_M_close_33 : decode mt_M_close.2.1 33 = .ok (.iload_n 1, 1) := by decide +kernel
theorem dd_M_close_34 : decode mt_M_close.2.1 34 = .ok (.iload_n 2, 1) := by decide +kernel
theorem dd_M_close_35 : decode mt_M_close.2.1 35 = .ok (.ifCond .eq 7, 3) := by decide +kernel
theorem dd_M_close_38 : decode mt_M_close.2.1 38 = .ok (.iconst 0, 1) := by decide +kernel
theorem dd_M_close_39 : decode mt_M_close.2.1 39 = .ok (.goto 9, 3) := by decide +kernel
theorem dd_M_close_42 : decode mt_M_close.2.1 42 = .ok (.aload_n 0, 1) := by decide +kernel
theorem dd_M_close_43 : decode mt_M_close.2.1 43 = .ok (.getfield 44, 3) := by decide +kernel
theorem dd_M_close_46 : decode mt_M_close.2.1 46 = .ok (.iload_n 1, 1) := by decide +kernel
theorem dd_M_close_47 : decode mt_M_close.2.1 47 = .ok (.iaload, 1) := by decide +kernel
theorem dd_M_close_48 : decode mt_M_close.2.1 48 = .ok (.iastore, 1) := by decide +kernel
theorem dd_M_close_49 : decode mt_M_close.2.1 49 = .ok (.aload_n 0, 1) := by decide +kernel
theorem dd_M_close_50 : decode mt_M_close.2.1 50 = .ok (.iload_n 1, 1) := by decide +kernel
theorem dd_M_close_51 : decode mt_M_close.2.1 51 = .ok (.invokevirtual 186, 3) := by decide +kernel
theorem dd_M_close_54 : decode mt_M_close.2.1 54 = .ok (.iload_n 2, 1) := by decide +kernel
theorem dd_M_close_55 : decode mt_M_close.2.1 55 = .ok (.ifCond .eq 15, 3) := by decide +kernel
theorem dd_M_close_58 : decode mt_M_close.2.1 58 = .ok (.aload_n 0, 1) := by decide +kernel
theorem dd_M_close_59 : decode mt_M_close.2.1 59 = .ok (.getfield 59, 3) := by decide +kernel
theorem dd_M_close_62 : decode mt_M_close.2.1 62 = .ok (.iload_n 1, 1) := by decide +kernel
theorem dd_M_close_63 : decode mt_M_close.2.1 63 = .ok (.iconst 0, 1) := by decide +kernel
theorem dd_M_close_64 : decode mt_M_close.2.1 64 = .ok (.bastore, 1) := by decide +kernel
theorem dd_M_close_65 : decode mt_M_close.2.1 65 = .ok (.aload_n 0, 1) := by decide +kernel
theorem dd_M_close_66 : decode mt_M_close.2.1 66 = .ok (.iload_n 1, 1) := by decide +kernel
theorem dd_M_close_67 : decode mt_M_close.2.1 67 = .ok (.invokevirtual 189, 3) := by decide +kernel
theorem dd_M_close_70 : decode mt_M_close.2.1 70 = .ok (.return_, 1) := by decide +kernel
theorem dd_M_failPlain_0 : decode mt_M_failPlain.2.1 0 = .ok (.aload_n 0, 1) := by decide +kernel
theorem dd_M_failPlain_1 : decode mt_M_failPlain.2.1 1 = .ok (.getfield 7, 3) := by decide +kernel
theorem dd_M_failPlain_4 : decode mt_M_failPlain.2.1 4 = .ok (.iload_n 1, 1) := by decide +kernel
theorem dd_M_failPlain_5 : decode mt_M_failPlain.2.1 5 = .ok (.iaload, 1) := by decide +kernel
theorem dd_M_failPlain_6 : decode mt_M_failPlain.2.1 6 = .ok (.ifCond .eq 4, 3) := by decide +kernel
theorem dd_M_failPlain_9 : decode mt_M_failPlain.2.1 9 = .ok (.return_, 1) := by decide +kernel
theorem dd_M_failPlain_10 : decode mt_M_failPlain.2.1 10 = .ok (.aload_n 0, 1) := by decide +kernel
theorem dd_M_failPlain_11 : decode mt_M_failPlain.2.1 11 = .ok (.getfield 38, 3) := by decide +kernel
theorem dd_M_failPlain_14 : decode mt_M_failPlain.2.1 14 = .ok (.iload_n 1, 1) := by decide +kernel
theorem dd_M_failPlain_15 : decode mt_M_failPlain.2.1 15 = .ok (.iconst 0, 1) := by decide +kernel
theorem dd_M_failPlain_16 : decode mt_M_failPlain.2.1 16 = .ok (.iastore, 1) := by decide +kernel
theorem dd_M_failPlain_17 : decode mt_M_failPlain.2.1 17 = .ok (.aload_n 0, 1) := by decide +kernel
theorem dd_M_failPlain_18 : decode mt_M_failPlain.2.1 18 = .ok (.getfield 7, 3) := by decide +kernel
theorem dd_M_failPlain_21 : decode mt_M_failPlain.2.1 21 = .ok (.iload_n 1, 1) := by decide +kernel
theorem dd_M_failPlain_22 : decode mt_M_failPlain.2.1 22 = .ok (.iconst 2, 1) := by decide +kernel
theorem dd_M_failPlain_23 : decode mt_M_failPlain.2.1 23 = .ok (.iastore, 1) := by decide +kernel
theorem dd_M_failPlain_24 : decode mt_M_failPlain.2.1 24 = .ok (.aload_n 0, 1) := by decide +kernel
theorem dd_M_failPlain_25 : decode mt_M_failPlain.2.1 25 = .ok (.getfield 13, 3) := by decide +kernel
theorem dd_M_failPlain_28 : decode mt_M_failPlain.2.1 28 = .ok (.iload_n 1, 1) := by decide +kernel
theorem dd_M_failPlain_29 : decode mt_M_failPlain.2.1 29 = .ok (.iload_n 2, 1) := by decide +kernel
theorem dd_M_failPlain_30 : decode mt_M_failPlain.2.1 30 = .ok (.iastore, 1) := by decide +kernel
theorem dd_M_failPlain_31 : decode mt_M_failPlain.2.1 31 = .ok (.iconst 0, 1) := by decide +kernel
theorem dd_M_failPlain_32 : decode mt_M_failPlain.2.1 32 = .ok (.istore_n 3, 1) := by decide +kernel
theorem dd_M_failPlain_33 : decode mt_M_failPlain.2.1 33 = .ok (.iload_n 3, 1) := by decide +kernel
theorem dd_M_failPlain_34 : decode mt_M_failPlain.2.1 34 = .ok (.aload_n 0, 1) := by decide +kernel
theorem dd_M_failPlain_35 : decode mt_M_failPlain.2.1 35 = .ok (.getfield 44, 3) := by decide +kernel
theorem dd_M_failPlain_38 : decode mt_M_failPlain.2.1 38 = .ok (.iload_n 1, 1) := by decide +kernel
theorem dd_M_failPlain_39 : decode mt_M_failPlain.2.1 39 = .ok (.iaload, 1) := by decide +kernel
theorem dd_M_failPlain_40 : decode mt_M_failPlain.2.1 40 = .ok (.if_icmp .ge 54, 3) := by decide +kernel
theorem dd_M_failPlain_43 : decode mt_M_failPlain.2.1 43 = .ok (.aload_n 0, 1) := by decide +kernel
theorem dd_M_failPlain_44 : decode mt_M_failPlain.2.1 44 = .ok (.getfield 41, 3) := by decide +kernel
theorem dd_M_failPlain_47 : decode mt_M_failPlain.2.1 47 = .ok (.bipush 8, 2) := by decide +kernel
theorem dd_M_failPlain_49 : decode mt_M_failPlain.2.1 49 = .ok (.iload_n 1, 1) := by decide +kernel
theorem dd_M_failPlain_50 : decode mt_M_failPlain.2.1 50 = .ok (.imul, 1) := by decide +kernel
theorem dd_M_failPlain_51 : decode mt_M_failPlain.2.1 51 = .ok (.iload_n 3, 1) := by decide +kernel
theorem dd_M_failPlain_52 : decode mt_M_failPlain.2.1 52 = .ok (.iadd, 1) := by decide +kernel
theorem dd_M_failPlain_53 : decode mt_M_failPlain.2.1 53 = .ok (.iaload, 1) := by decide +kernel
theorem dd_M_failPlain_54 : decode mt_M_failPlain.2.1 54 = .ok (.istore 4, 2) := by decide +kernel
theorem dd_M_failPlain_56 : decode mt_M_failPlain.2.1 56 = .ok (.iload 4, 2) := by decide +kernel
theorem dd_M_failPlain_58 : decode mt_M_failPlain.2.1 58 = .ok (.ifCond .le 16, 3) := by decide +kernel
theorem dd_M_failPlain_61 : decode mt_M_failPlain.2.1 61 = .ok (.aload_n 0, 1) := by decide +kernel
theorem dd_M_failPlain_62 : decode mt_M_failPlain.2.1 62 = .ok (.bipush 8, 2) := by decide +kernel
theorem dd_M_failPlain_64 : decode mt_M_failPlain.2.1 64 = .ok (.iload_n 1, 1) := by decide +kernel
theorem dd_M_failPlain_65 : decode mt_M_failPlain.2.1 65 = .ok (.iload 4, 2) := by decide +kernel
theorem dd_M_failPlain_67 : decode mt_M_failPlain.2.1 67 = .ok (.iload_n 2, 1) := by decide +kernel
theorem dd_M_failPlain_68 : decode mt_M_failPlain.2.1 68 = .ok (.invokevirtual 160, 3) := by decide +kernel
theorem dd_M_failPlain_71 : decode mt_M_failPlain.2.1 71 = .ok (.goto 17, 3) := by decide +kernel
theorem dd_M_failPlain_74 : decode mt_M_failPlain.2.1 74 = .ok (.iload 4, 2) := by decide +kernel
theorem dd_M_failPlain_76 : decode mt_M_failPlain.2.1 76 = .ok (.bipush (-10), 2) := by decide +kernel
theorem dd_M_failPlain_78 : decode mt_M_failPlain.2.1 78 = .ok (.if_icmp .ne 10, 3) := by decide +kernel
theorem dd_M_failPlain_81 : decode mt_M_failPlain.2.1 81 = .ok (.aload_n 0, 1) := by decide +kernel
theorem dd_M_failPlain_82 : decode mt_M_failPlain.2.1 82 = .ok (.getfield 59, 3) := by decide +kernel
theorem dd_M_failPlain_85 : decode mt_M_failPlain.2.1 85 = .ok (.iload_n 1, 1) := by decide +kernel
theorem dd_M_failPlain_86 : decode mt_M_failPlain.2.1 86 = .ok (.iconst 0, 1) := by decide +kernel
theorem dd_M_failPlain_87 : decode mt_M_failPlain.2.1 87 = .ok (.bastore, 1) := by decide +kernel
theorem dd_M_failPlain_88 : decode mt_M_failPlain.2.1 88 = .ok (.iinc 3 1, 3) := by decide +kernel
theorem dd_M_failPlain_91 : decode mt_M_failPlain.2.1 91 = .ok (.goto (-58), 3) := by decide +kernel
theorem dd_M_failPlain_94 : decode mt_M_failPlain.2.1 94 = .ok (.aload_n 0, 1) := by decide +kernel
theorem dd_M_failPlain_95 : decode mt_M_failPlain.2.1 95 = .ok (.getfield 44, 3) := by decide +kernel
theorem dd_M_failPlain_98 : decode mt_M_failPlain.2.1 98 = .ok (.iload_n 1, 1) := by decide +kernel
theorem dd_M_failPlain_99 : decode mt_M_failPlain.2.1 99 = .ok (.iconst 0, 1) := by decide +kernel
theorem dd_M_failPlain_100 : decode mt_M_failPlain.2.1 100 = .ok (.iastore, 1) := by decide +kernel
theorem dd_M_failPlain_101 : decode mt_M_failPlain.2.1 101 = .ok (.return_, 1) := by decide +kernel
theorem dd_M_failRoot_0 : decode mt_M_failRoot.2.1 0 = .ok (.aload_n 0, 1) := by decide +kernel
theorem dd_M_failRoot_1 : decode mt_M_failRoot.2.1 1 = .ok (.getfield 7, 3) := by decide +kernel
theorem dd_M_failRoot_4 : decode mt_M_failRoot.2.1 4 = .ok (.iload_n 1, 1) := by decide +kernel
theorem dd_M_failRoot_5 : decode mt_M_failRoot.2.1 5 = .ok (.iaload, 1) := by decide +kernel
theorem dd_M_failRoot_6 : decode mt_M_failRoot.2.1 6 = .ok (.ifCond .ne 7, 3) := by decide +kernel
theorem dd_M_failRoot_9 : decode mt_M_failRoot.2.1 9 = .ok (.iconst 1, 1) := by decide +kernel
theorem dd_M_failRoot_10 : decode mt_M_failRoot.2.1 10 = .ok (.goto 4, 3) := by decide +kernel
theorem dd_M_failRoot_13 : decode mt_M_failRoot.2.1 13 = .ok (.iconst 0, 1) := by decide +kernel
theorem dd_M_failRoot_14 : decode mt_M_failRoot.2.1 14 = .ok (.istore_n 3, 1) := by decide +kernel
theorem dd_M_failRoot_15 : decode mt_M_failRoot.2.1 15 = .ok (.aload_n 0, 1) := by decide +kernel
theorem dd_M_failRoot_16 : decode mt_M_failRoot.2.1 16 = .ok (.iload_n 1, 1) := by decide +kernel
theorem dd_M_failRoot_17 : decode mt_M_failRoot.2.1 17 = .ok (.iload_n 2, 1) := by decide +kernel
theorem dd_M_failRoot_18 : decode mt_M_failRoot.2.1 18 = .ok (.invokevirtual 192, 3) := by decide +kernel
theorem dd_M_failRoot_21 : decode mt_M_failRoot.2.1 21 = .ok (.iload_n 3, 1) := by decide +kernel
theorem dd_M_failRoot_22 : decode mt_M_failRoot.2.1 22 = .ok (.ifCond .eq 36, 3) := by decide +kernel
theorem dd_M_failRoot_25 : decode mt_M_failRoot.2.1 25 = .ok (.aload_n 0, 1) := by decide +kernel
theorem dd_M_failRoot_26 : decode mt_M_failRoot.2.1 26 = .ok (.getfield 53, 3) := by decide +kernel
theorem dd_M_failRoot_29 : decode mt_M_failRoot.2.1 29 = .ok (.iload_n 1, 1) := by decide +kernel
theorem dd_M_failRoot_30 : decode mt_M_failRoot.2.1 30 = .ok (.iaload, 1) := by decide +kernel
theorem dd_M_failRoot_31 : decode mt_M_failRoot.2.1 31 = .ok (.ifCond .lt 27, 3) := by decide +kernel
theorem dd_M_failRoot_34 : decode mt_M_failRoot.2.1 34 = .ok (.aload_n 0, 1) := by decide +kernel
theorem dd_M_failRoot_35 : decode mt_M_failRoot.2.1 35 = .ok (.aload_n 0, 1) := by decide +kernel
theorem dd_M_failRoot_36 : decode mt_M_failRoot.2.1 36 = .ok (.getfield 53, 3) := by decide +kernel
theorem dd_M_failRoot_39 : decode mt_M_failRoot.2.1 39 = .ok (.iload_n 1, 1) := by decide +kernel
theorem dd_M_failRoot_40 : decode mt_M_failRoot.2.1 40 = .ok (.iaload, 1) := by decide +kernel
theorem dd_M_failRoot_41 : decode mt_M_failRoot.2.1 41 = .ok (.iload_n 2, 1) := by decide +kernel
theorem dd_M_failRoot_42 : decode mt_M_failRoot.2.1 42 = .ok (.invokevirtual 192, 3) := by decide +kernel
theorem dd_M_failRoot_45 : decode mt_M_failRoot.2.1 45 = .ok (.aload_n 0, 1) := by decide +kernel
theorem dd_M_failRoot_46 : decode mt_M_failRoot.2.1 46 = .ok (.aload_n 0, 1) := by decide +kernel
theorem dd_M_failRoot_47 : decode mt_M_failRoot.2.1 47 = .ok (.getfield 53, 3) := by decide +kernel
theorem dd_M_failRoot_50 : decode mt_M_failRoot.2.1 50 = .ok (.iload_n 1, 1) := by decide +kernel
theorem dd_M_failRoot_51 : decode mt_M_failRoot.2.1 51 = .ok (.iaload, 1) := by decide +kernel
theorem dd_M_failRoot_52 : decode mt_M_failRoot.2.1 52 = .ok (.iconst 1, 1) := by decide +kernel
theorem dd_M_failRoot_53 : decode mt_M_failRoot.2.1 53 = .ok (.iadd, 1) := by decide +kernel
theorem dd_M_failRoot_54 : decode mt_M_failRoot.2.1 54 = .ok (.iload_n 2, 1) := by decide +kernel
theorem dd_M_failRoot_55 : decode mt_M_failRoot.2.1 55 = .ok (.invokevirtual 192, 3) := by decide +kernel
theorem dd_M_failRoot_58 : decode mt_M_failRoot.2.1 58 = .ok (.return_, 1) := by decide +kernel
theorem dd_M_pulls_0 : decode mt_M_pulls.2.1 0 = .ok (.aload_n 0, 1) := by decide +kernel
theorem dd_M_pulls_1 : decode mt_M_pulls.2.1 1 = .ok (.getfield 7, 3) := by decide +kernel
theorem dd_M_pulls_4 : decode mt_M_pulls.2.1 4 = .ok (.iload_n 1, 1) := by decide +kernel
theorem dd_M_pulls_5 : decode mt_M_pulls.2.1 5 = .ok (.iaload, 1) := by decide +kernel
theorem dd_M_pulls_6 : decode mt_M_pulls.2.1 6 = .ok (.ifCond .ne 29, 3) := by decide +kernel
theorem dd_M_pulls_9 : decode mt_M_pulls.2.1 9 = .ok (.aload_n 0, 1) := by decide +kernel
theorem dd_M_pulls_10 : decode mt_M_pulls.2.1 10 = .ok (.getfield 23, 3) := by decide +kernel
theorem dd_M_pulls_13 : decode mt_M_pulls.2.1 13 = .ok (.iload_n 1, 1) := by decide +kernel
theorem dd_M_pulls_14 : decode mt_M_pulls.2.1 14 = .ok (.baload, 1) := by decide +kernel
theorem dd_M_pulls_15 : decode mt_M_pulls.2.1 15 = .ok (.ifCond .ne 20, 3) := by decide +kernel
theorem dd_M_pulls_18 : decode mt_M_pulls.2.1 18 = .ok (.aload_n 0, 1) := by decide +kernel
theorem dd_M_pulls_19 : decode mt_M_pulls.2.1 19 = .ok (.getfield 44, 3) := by decide +kernel
theorem dd_M_pulls_22 : decode mt_M_pulls.2.1 22 = .ok (.iload_n 1, 1) := by decide +kernel
theorem dd_M_pulls_23 : decode mt_M_pulls.2.1 23 = .ok (.iaload, 1) := by decide +kernel
theorem dd_M_pulls_24 : decode mt_M_pulls.2.1 24 = .ok (.ifCond .ne 13, 3) := by decide +kernel
theorem dd_M_pulls_27 : decode mt_M_pulls.2.1 27 = .ok (.aload_n 0, 1) := by decide +kernel
theorem dd_M_pulls_28 : decode mt_M_pulls.2.1 28 = .ok (.iload_n 1, 1) := by decide +kernel
theorem dd_M_pulls_29 : decode mt_M_pulls.2.1 29 = .ok (.invokevirtual 195, 3) := by decide +kernel
theorem dd_M_pulls_32 : decode mt_M_pulls.2.1 32 = .ok (.ifCond .gt 5, 3) := by decide +kernel
theorem dd_M_pulls_35 : decode mt_M_pulls.2.1 35 = .ok (.iconst 0, 1) := by decide +kernel
theorem dd_M_pulls_36 : decode mt_M_pulls.2.1 36 = .ok (.ireturn, 1) := by decide +kernel
theorem dd_M_pulls_37 : decode mt_M_pulls.2.1 37 = .ok (.aload_n 0, 1) := by decide +kernel
theorem dd_M_pulls_38 : decode mt_M_pulls.2.1 38 = .ok (.getfield 29, 3) := by decide +kernel
theorem dd_M_pulls_41 : decode mt_M_pulls.2.1 41 = .ok (.iload_n 1, 1) := by decide +kernel
theorem dd_M_pulls_42 : decode mt_M_pulls.2.1 42 = .ok (.aload_n 0, 1) := by decide +kernel
theorem dd_M_pulls_43 : decode mt_M_pulls.2.1 43 = .ok (.getfield 29, 3) := by decide +kernel
theorem dd_M_pulls_46 : decode mt_M_pulls.2.1 46 = .ok (.iload_n 1, 1) := by decide +kernel
theorem dd_M_pulls_47 : decode mt_M_pulls.2.1 47 = .ok (.baload, 1) := by decide +kernel
theorem dd_M_pulls_48 : decode mt_M_pulls.2.1 48 = .ok (.ifCond .ne 12, 3) := by decide +kernel
theorem dd_M_pulls_51 : decode mt_M_pulls.2.1 51 = .ok (.aload_n 0, 1) := by decide +kernel
theorem dd_M_pulls_52 : decode mt_M_pulls.2.1 52 = .ok (.getfield 26, 3) := by decide +kernel
theorem dd_M_pulls_55 : decode mt_M_pulls.2.1 55 = .ok (.iload_n 1, 1) := by decide +kernel
theorem dd_M_pulls_56 : decode mt_M_pulls.2.1 56 = .ok (.baload, 1) := by decide +kernel
theorem dd_M_pulls_57 : decode mt_M_pulls.2.1 57 = .ok (.ifCond .eq 7, 3) := by decide +kernel
theorem dd_M_pulls_60 : decode mt_M_pulls.2.1 60 = .ok (.iconst 1, 1) := by decide +kernel
theorem dd_M_pulls_61 : decode mt_M_pulls.2.1 61 = .ok (.goto 4, 3) := by decide +kernel
theorem dd_M_pulls_64 : decode mt_M_pulls.2.1 64 = .ok (.iconst 0, 1) := by decide +kernel
theorem dd_M_pulls_65 : decode mt_M_pulls.2.1 65 = .ok (.bastore, 1) := by decide +kernel
theorem dd_M_pulls_66 : decode mt_M_pulls.2.1 66 = .ok (.aload_n 0, 1) := by decide +kernel
theorem dd_M_pulls_67 : decode mt_M_pulls.2.1 67 = .ok (.getfield 26, 3) := by decide +kernel
theorem dd_M_pulls_70 : decode mt_M_pulls.2.1 70 = .ok (.iload_n 1, 1) := by decide +kernel
theorem dd_M_pulls_71 : decode mt_M_pulls.2.1 71 = .ok (.baload, 1) := by decide +kernel
theorem dd_M_pulls_72 : decode mt_M_pulls.2.1 72 = .ok (.ifCond .ne 7, 3) := by decide +kernel
theorem dd_M_pulls_75 : decode mt_M_pulls.2.1 75 = .ok (.iconst 1, 1) := by decide +kernel
theorem dd_M_pulls_76 : decode mt_M_pulls.2.1 76 = .ok (.goto 4, 3) := by decide +kernel
theorem dd_M_pulls_79 : decode mt_M_pulls.2.1 79 = .ok (.iconst 0, 1) := by decide +kernel
theorem dd_M_pulls_80 : decode mt_M_pulls.2.1 80 = .ok (.istore_n 2, 1) := by decide +kernel
theorem dd_M_pulls_81 : decode mt_M_pulls.2.1 81 = .ok (.aload_n 0, 1) := by decide +kernel
theorem dd_M_pulls_82 : decode mt_M_pulls.2.1 82 = .ok (.getfield 26, 3) := by decide +kernel
theorem dd_M_pulls_85 : decode mt_M_pulls.2.1 85 = .ok (.iload_n 1, 1) := by decide +kernel
theorem dd_M_pulls_86 : decode mt_M_pulls.2.1 86 = .ok (.iconst 1, 1) := by decide +kernel
theorem dd_M_pulls_87 : decode mt_M_pulls.2.1 87 = .ok (.bastore, 1) := by decide +kernel
theorem dd_M_pulls_88 : decode mt_M_pulls.2.1 88 = .ok (.iload_n 2, 1) := by decide +kernel
theorem dd_M_pulls_89 : decode mt_M_pulls.2.1 89 = .ok (.ireturn, 1) := by decide +kernel
