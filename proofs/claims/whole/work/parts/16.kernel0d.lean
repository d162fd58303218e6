theorem dd_K_init_0 : decode mt_K_init.2.1 0 = .ok (.aload_n 0, 1) := by decide +kernel
theorem dd_K_init_1 : decode mt_K_init.2.1 1 = .ok (.invokespecial 3, 3) := by decide +kernel
theorem dd_K_init_4 : decode mt_K_init.2.1 4 = .ok (.aload_n 0, 1) := by decide +kernel
theorem dd_K_init_5 : decode mt_K_init.2.1 5 = .ok (.new 9, 3) := by decide +kernel
theorem dd_K_init_8 : decode mt_K_init.2.1 8 = .ok (.dup, 1) := by decide +kernel
theorem dd_K_init_9 : decode mt_K_init.2.1 9 = .ok (.invokespecial 11, 3) := by decide +kernel
theorem dd_K_init_12 : decode mt_K_init.2.1 12 = .ok (.putfield 12, 3) := by decide +kernel
theorem dd_K_init_15 : decode mt_K_init.2.1 15 = .ok (.aload_n 0, 1) := by decide +kernel
theorem dd_K_init_16 : decode mt_K_init.2.1 16 = .ok (.new 16, 3) := by decide +kernel
theorem dd_K_init_19 : decode mt_K_init.2.1 19 = .ok (.dup, 1) := by decide +kernel
theorem dd_K_init_20 : decode mt_K_init.2.1 20 = .ok (.invokespecial 18, 3) := by decide +kernel
theorem dd_K_init_23 : decode mt_K_init.2.1 23 = .ok (.putfield 19, 3) := by decide +kernel
theorem dd_K_init_26 : decode mt_K_init.2.1 26 = .ok (.aload_n 0, 1) := by decide +kernel
theorem dd_K_init_27 : decode mt_K_init.2.1 27 = .ok (.bipush 6, 2) := by decide +kernel
theorem dd_K_init_29 : decode mt_K_init.2.1 29 = .ok (.anewarray 23, 3) := by decide +kernel
theorem dd_K_init_32 : decode mt_K_init.2.1 32 = .ok (.putfield 25, 3) := by decide +kernel
theorem dd_K_init_35 : decode mt_K_init.2.1 35 = .ok (.aload_n 0, 1) := by decide +kernel
theorem dd_K_init_36 : decode mt_K_init.2.1 36 = .ok (.iconst 2, 1) := by decide +kernel
theorem dd_K_init_37 : decode mt_K_init.2.1 37 = .ok (.anewarray 29, 3) := by decide +kernel
theorem dd_K_init_40 : decode mt_K_init.2.1 40 = .ok (.putfield 31, 3) := by decide +kernel
theorem dd_K_init_43 : decode mt_K_init.2.1 43 = .ok (.aload_n 0, 1) := by decide +kernel
theorem dd_K_init_44 : decode mt_K_init.2.1 44 = .ok (.iconst 2, 1) := by decide +kernel
theorem dd_K_init_45 : decode mt_K_init.2.1 45 = .ok (.anewarray 35, 3) := by decide +kernel
theorem dd_K_init_48 : decode mt_K_init.2.1 48 = .ok (.putfield 37, 3) := by decide +kernel
theorem dd_K_init_51 : decode mt_K_init.2.1 51 = .ok (.return_, 1) := by decide +kernel
theorem dd_K_isMark_0 : decode mt_K_isMark.2.1 0 = .ok (.iload_n 0, 1) := by decide +kernel
theorem dd_K_isMark_1 : decode mt_K_isMark.2.1 1 = .ok (.ifCond .lt 13, 3) := by decide +kernel
theorem dd_K_isMark_4 : decode mt_K_isMark.2.1 4 = .ok (.iload_n 0, 1) := by decide +kernel
theorem dd_K_isMark_5 : decode mt_K_isMark.2.1 5 = .ok (.bipush 20, 2) := by decide +kernel
theorem dd_K_isMark_7 : decode mt_K_isMark.2.1 7 = .ok (.if_icmp .gt 7, 3) := by decide +kernel
theorem dd_K_isMark_10 : decode mt_K_isMark.2.1 10 = .ok (.iconst 1, 1) := by decide +kernel
theorem dd_K_isMark_11 : decode mt_K_isMark.2.1 11 = .ok (.goto 4, 3) := by decide +kernel
theorem dd_K_isMark_14 : decode mt_K_isMark.2.1 14 = .ok (.iconst 0, 1) := by decide +kernel
theorem dd_K_isMark_15 : decode mt_K_isMark.2.1 15 = .ok (.ireturn, 1) := by decide +kernel
theorem dd_K_addGiver_0 : decode mt_K_addGiver.2.1 0 = .ok (.new 23, 3) := by decide +kernel
theorem dd_K_addGiver_3 : decode mt_K_addGiver.2.1 3 = .ok (.dup, 1) := by decide +kernel
theorem dd_K_addGiver_4 : decode mt_K_addGiver.2.1 4 = .ok (.aload_n 0, 1) := by decide +kernel
theorem dd_K_addGiver_5 : decode mt_K_addGiver.2.1 5 = .ok (.getfield 45, 3) := by decide +kernel
theorem dd_K_addGiver_8 : decode mt_K_addGiver.2.1 8 = .ok (.new 66, 3) := by decide +kernel
theorem dd_K_addGiver_11 : decode mt_K_addGiver.2.1 11 = .ok (.dup, 1) := by decide +kernel
theorem dd_K_addGiver_12 : decode mt_K_addGiver.2.1 12 = .ok (.iload_n 1, 1) := by decide +kernel
theorem dd_K_addGiver_13 : decode mt_K_addGiver.2.1 13 = .ok (.iload_n 2, 1) := by decide +kernel
theorem dd_K_addGiver_14 : decode mt_K_addGiver.2.1 14 = .ok (.invokespecial 68, 3) := by decide +kernel
theorem dd_K_addGiver_17 : decode mt_K_addGiver.2.1 17 = .ok (.aload_n 0, 1) := by decide +kernel
theorem dd_K_addGiver_18 : decode mt_K_addGiver.2.1 18 = .ok (.getfield 12, 3) := by decide +kernel
theorem dd_K_addGiver_21 : decode mt_K_addGiver.2.1 21 = .ok (.invokespecial 244, 3) := by decide +kernel
theorem dd_K_addGiver_24 : decode mt_K_addGiver.2.1 24 = .ok (.astore_n 3, 1) := by decide +kernel
theorem dd_K_addGiver_25 : decode mt_K_addGiver.2.1 25 = .ok (.aload_n 0, 1) := by decide +kernel
theorem dd_K_addGiver_26 : decode mt_K_addGiver.2.1 26 = .ok (.getfield 25, 3) := by decide +kernel
theorem dd_K_addGiver_29 : decode mt_K_addGiver.2.1 29 = .ok (.aload_n 0, 1) := by decide +kernel
theorem dd_K_addGiver_30 : decode mt_K_addGiver.2.1 30 = .ok (.getfield 45, 3) := by decide +kernel
theorem dd_K_addGiver_33 : decode mt_K_addGiver.2.1 33 = .ok (.aload_n 3, 1) := by decide +kernel
theorem dd_K_addGiver_34 : decode mt_K_addGiver.2.1 34 = .ok (.aastore, 1) := by decide +kernel
theorem dd_K_addGiver_35 : decode mt_K_addGiver.2.1 35 = .ok (.aload_n 0, 1) := by decide +kernel
theorem dd_K_addGiver_36 : decode mt_K_addGiver.2.1 36 = .ok (.dup, 1) := by decide +kernel
theorem dd_K_addGiver_37 : decode mt_K_addGiver.2.1 37 = .ok (.getfield 45, 3) := by decide +kernel
theorem dd_K_addGiver_40 : decode mt_K_addGiver.2.1 40 = .ok (.iconst 1, 1) := by decide +kernel
theorem dd_K_addGiver_41 : decode mt_K_addGiver.2.1 41 = .ok (.iadd, 1) := by decide +kernel
theorem dd_K_addGiver_42 : decode mt_K_addGiver.2.1 42 = .ok (.putfield 45, 3) := by decide +kernel
theorem dd_K_addGiver_45 : decode mt_K_addGiver.2.1 45 = .ok (.aload_n 3, 1) := by decide +kernel
theorem dd_K_addGiver_46 : decode mt_K_addGiver.2.1 46 = .ok (.areturn, 1) := by decide +kernel
theorem dd_K_askRoot_0 : decode mt_K_askRoot.2.1 0 = .ok (.aload_n 1, 1) := by decide +kernel
theorem dd_K_askRoot_1 : decode mt_K_askRoot.2.1 1 = .ok (.getfield 281, 3) := by decide +kernel
theorem dd_K_askRoot_4 : decode mt_K_askRoot.2.1 4 = .ok (.astore_n 2, 1) := by decide +kernel
theorem dd_K_askRoot_5 : decode mt_K_askRoot.2.1 5 = .ok (.aload_n 1, 1) := by decide +kernel
theorem dd_K_askRoot_6 : decode mt_K_askRoot.2.1 6 = .ok (.aload_n 2, 1) := by decide +kernel
theorem dd_K_askRoot_7 : decode mt_K_askRoot.2.1 7 = .ok (.getfield 110, 3) := by decide +kernel
theorem dd_K_askRoot_10 : decode mt_K_askRoot.2.1 10 = .ok (.ifCond .ne 7, 3) := by decide +kernel
theorem dd_K_askRoot_13 : decode mt_K_askRoot.2.1 13 = .ok (.iconst 1, 1) := by decide +kernel
theorem dd_K_askRoot_14 : decode mt_K_askRoot.2.1 14 = .ok (.goto 4, 3) := by decide +kernel
theorem dd_K_askRoot_17 : decode mt_K_askRoot.2.1 17 = .ok (.iconst 0, 1) := by decide +kernel
theorem dd_K_askRoot_18 : decode mt_K_askRoot.2.1 18 = .ok (.putfield 273, 3) := by decide +kernel
theorem dd_K_askRoot_21 : decode mt_K_askRoot.2.1 21 = .ok (.aload_n 1, 1) := by decide +kernel
theorem dd_K_askRoot_22 : decode mt_K_askRoot.2.1 22 = .ok (.getfield 273, 3) := by decide +kernel
theorem dd_K_askRoot_25 : decode mt_K_askRoot.2.1 25 = .ok (.ifCond .ne 17, 3) := by decide +kernel
theorem dd_K_askRoot_28 : decode mt_K_askRoot.2.1 28 = .ok (.aload_n 2, 1) := by decide +kernel
theorem dd_K_askRoot_29 : decode mt_K_askRoot.2.1 29 = .ok (.getfield 110, 3) := by decide +kernel
theorem dd_K_askRoot_32 : decode mt_K_askRoot.2.1 32 = .ok (.iconst 2, 1) := by decide +kernel
theorem dd_K_askRoot_33 : decode mt_K_askRoot.2.1 33 = .ok (.if_icmp .ne 7, 3) := by decide +kernel
theorem dd_K_askRoot_36 : decode mt_K_askRoot.2.1 36 = .ok (.iconst 1, 1) := by decide +kernel
theorem dd_K_askRoot_37 : decode mt_K_askRoot.2.1 37 = .ok (.goto 4, 3) := by decide +kernel
theorem dd_K_askRoot_40 : decode mt_K_askRoot.2.1 40 = .ok (.iconst 0, 1) := by decide +kernel
theorem dd_K_askRoot_41 : decode mt_K_askRoot.2.1 41 = .ok (.ireturn, 1) := by decide +kernel
theorem dd_K_askRoot_42 : decode mt_K_askRoot.2.1 42 = .ok (.aload_n 2, 1) := by decide +kernel
theorem dd_K_askRoot_43 : decode mt_K_askRoot.2.1 43 = .ok (.getfield 83, 3) := by decide +kernel
theorem dd_K_askRoot_46 : decode mt_K_askRoot.2.1 46 = .ok (.invokevirtual 87, 3) := by decide +kernel
theorem dd_K_askRoot_49 : decode mt_K_askRoot.2.1 49 = .ok (.ifCond .le 7, 3) := by decide +kernel
theorem dd_K_askRoot_52 : decode mt_K_askRoot.2.1 52 = .ok (.iconst 1, 1) := by decide +kernel
theorem dd_K_askRoot_53 : decode mt_K_askRoot.2.1 53 = .ok (.goto 4, 3) := by decide +kernel
theorem dd_K_askRoot_56 : decode mt_K_askRoot.2.1 56 = .ok (.iconst 0, 1) := by decide +kernel
theorem dd_K_askRoot_57 : decode mt_K_askRoot.2.1 57 = .ok (.istore_n 3, 1) := by decide +kernel
theorem dd_K_askRoot_58 : decode mt_K_askRoot.2.1 58 = .ok (.iconst 0, 1) := by decide +kernel
theorem dd_K_askRoot_59 : decode mt_K_askRoot.2.1 59 = .ok (.istore 4, 2) := by decide +kernel
theorem dd_K_askRoot_61 : decode mt_K_askRoot.2.1 61 = .ok (.iload_n 3, 1) := by decide +kernel
theorem dd_K_askRoot_62 : decode mt_K_askRoot.2.1 62 = .ok (.ifCond .eq 19, 3) := by decide +kernel
theorem dd_K_askRoot_65 : decode mt_K_askRoot.2.1 65 = .ok (.aload_n 2, 1) := by decide +kernel
theorem dd_K_askRoot_66 : decode mt_K_askRoot.2.1 66 = .ok (.getfield 83, 3) := by decide +kernel
theorem dd_K_askRoot_69 : decode mt_K_askRoot.2.1 69 = .ok (.invokevirtual 262, 3) := by decide +kernel
theorem dd_K_askRoot_72 : decode mt_K_askRoot.2.1 72 = .ok (.istore 4, 2) := by decide +kernel
theorem dd_K_askRoot_74 : decode mt_K_askRoot.2.1 74 = .ok (.aload_n 2, 1) := by decide +kernel
theorem dd_K_askRoot_75 : decode mt_K_askRoot.2.1 75 = .ok (.invokevirtual 263, 3) := by decide +kernel
theorem dd_K_askRoot_78 : decode mt_K_askRoot.2.1 78 = .ok (.goto 11, 3) := by decide +kernel
theorem dd_K_askRoot_81 : decode mt_K_askRoot.2.1 81 = .ok (.aload_n 2, 1) := by decide +kernel
theorem dd_K_askRoot_82 : decode mt_K_askRoot.2.1 82 = .ok (.getfield 91, 3) := by decide +kernel
theorem dd_K_askRoot_85 : decode mt_K_askRoot.2.1 85 = .ok (.iconst 0, 1) := by decide +kernel
theorem dd_K_askRoot_86 : decode mt_K_askRoot.2.1 86 = .ok (.invokevirtual 266, 3) := by decide +kernel
theorem dd_K_askRoot_89 : decode mt_K_askRoot.2.1 89 = .ok (.aload_n 2, 1) := by decide +kernel
theorem dd_K_askRoot_90 : decode mt_K_askRoot.2.1 90 = .ok (.invokevirtual 270, 3) := by decide +kernel
theorem dd_K_askRoot_93 : decode mt_K_askRoot.2.1 93 = .ok (.ifCond .eq 17, 3) := by decide +kernel
theorem dd_K_askRoot_96 : decode mt_K_askRoot.2.1 96 = .ok (.aload_n 0, 1) := by decide +kernel
theorem dd_K_askRoot_97 : decode mt_K_askRoot.2.1 97 = .ok (.getfield 12, 3) := by decide +kernel
theorem dd_K_askRoot_100 : decode mt_K_askRoot.2.1 100 = .ok (.iconst 1, 1) := by decide +kernel
theorem dd_K_askRoot_101 : decode mt_K_askRoot.2.1 101 = .ok (.aload_n 2, 1) := by decide +kernel
theorem dd_K_askRoot_102 : decode mt_K_askRoot.2.1 102 = .ok (.getfield 60, 3) := by decide +kernel
theorem dd_K_askRoot_105 : decode mt_K_askRoot.2.1 105 = .ok (.iconst 0, 1) := by decide +kernel
theorem dd_K_askRoot_106 : decode mt_K_askRoot.2.1 106 = .ok (.iconst 0, 1) := by decide +kernel
theorem dd_K_askRoot_107 : decode mt_K_askRoot.2.1 107 = .ok (.invokevirtual 254, 3) := by decide +kernel
theorem dd_K_askRoot_110 : decode mt_K_askRoot.2.1 110 = .ok (.iload_n 3, 1) := by decide +kernel
theorem dd_K_askRoot_111 : decode mt_K_askRoot.2.1 111 = .ok (.ifCond .eq 17, 3) := by decide +kernel
theorem dd_K_askRoot_114 : decode mt_K_askRoot.2.1 114 = .ok (.aload_n 0, 1) := by decide +kernel
theorem dd_K_askRoot_115 : decode mt_K_askRoot.2.1 115 = .ok (.getfield 19, 3) := by decide +kernel
theorem dd_K_askRoot_118 : decode mt_K_askRoot.2.1 118 = .ok (.iconst 2, 1) := by decide +kernel
theorem dd_K_askRoot_119 : decode mt_K_askRoot.2.1 119 = .ok (.aload_n 2, 1) := by decide +kernel
theorem dd_K_askRoot_120 : decode mt_K_askRoot.2.1 120 = .ok (.getfield 60, 3) := by decide +kernel
theorem dd_K_askRoot_123 : decode mt_K_askRoot.2.1 123 = .ok (.iload 4, 2) := by decide +kernel
theorem dd_K_askRoot_125 : decode mt_K_askRoot.2.1 125 = .ok (.invokevirtual 129, 3) := by decide +kernel
theorem dd_K_askRoot_128 : decode mt_K_askRoot.2.1 128 = .ok (.iconst 1, 1) := by decide +kernel
theorem dd_K_askRoot_129 : decode mt_K_askRoot.2.1 129 = .ok (.ireturn, 1) := by decide +kernel
theorem dd_K_endBranches_0 : decode mt_K_endBranches.2.1 0 = .ok (.aload_n 1, 1) := by decide +kernel
theorem dd_K_endBranches_1 : decode mt_K_endBranches.2.1 1 = .ok (.iconst 0, 1) := by decide +kernel
theorem dd_K_endBranches_2 : decode mt_K_endBranches.2.1 2 = .ok (.putfield 273, 3) := by decide +kernel
theorem dd_K_endBranches_5 : decode mt_K_endBranches.2.1 5 = .ok (.aload_n 1, 1) := by decide +kernel
theorem dd_K_endBranches_6 : decode mt_K_endBranches.2.1 6 = .ok (.getfield 285, 3) := by decide +kernel
theorem dd_K_endBranches_9 : decode mt_K_endBranches.2.1 9 = .ok (.astore_n 2, 1) := by decide +kernel
theorem dd_K_endBranches_10 : decode mt_K_endBranches.2.1 10 = .ok (.aload_n 2, 1) := by decide +kernel
theorem dd_K_endBranches_11 : decode mt_K_endBranches.2.1 11 = .ok (.arraylength, 1) := by decide +kernel
theorem dd_K_endBranches_12 : decode mt_K_endBranches.2.1 12 = .ok (.istore_n 3, 1) := by decide +kernel
theorem dd_K_endBranches_13 : decode mt_K_endBranches.2.1 13 = .ok (.iconst 0, 1) := by decide +kernel
theorem dd_K_endBranches_14 : decode mt_K_endBranches.2.1 14 = .ok (.istore 4, 2) := by decide +kernel
theorem dd_K_endBranches_16 : decode mt_K_endBranches.2.1 16 = .ok (.iload 4, 2) := by decide +kernel
theorem dd_K_endBranches_18 : decode mt_K_endBranches.2.1 18 = .ok (.iload_n 3, 1) := by decide +kernel
theorem dd_K_endBranches_19 : decode mt_K_endBranches.2.1 19 = .ok (.if_icmp .ge 51, 3) := by decide +kernel
theorem dd_K_endBranches_22 : decode mt_K_endBranches.2.1 22 = .ok (.aload_n 2, 1) := by decide +kernel
theorem dd_K_endBranches_23 : decode mt_K_endBranches.2.1 23 = .ok (.iload 4, 2) := by decide +kernel
theorem dd_K_endBranches_25 : decode mt_K_endBranches.2.1 25 = .ok (.aaload, 1) := by decide +kernel
theorem dd_K_endBranches_26 : decode mt_K_endBranches.2.1 26 = .ok (.astore 5, 2) := by decide +kernel
theorem dd_K_endBranches_28 : decode mt_K_endBranches.2.1 28 = .ok (.aload 5, 2) := by decide +kernel
theorem dd_K_endBranches_30 : decode mt_K_endBranches.2.1 30 = .ok (.invokevirtual 79, 3) := by decide +kernel
theorem dd_K_endBranches_33 : decode mt_K_endBranches.2.1 33 = .ok (.ifCond .eq 31, 3) := by decide +kernel
theorem dd_K_endBranches_36 : decode mt_K_endBranches.2.1 36 = .ok (.aload 5, 2) := by decide +kernel
theorem dd_K_endBranches_38 : decode mt_K_endBranches.2.1 38 = .ok (.iconst 1, 1) := by decide +kernel
theorem dd_K_endBranches_39 : decode mt_K_endBranches.2.1 39 = .ok (.putfield 103, 3) := by decide +kernel
theorem dd_K_endBranches_42 : decode mt_K_endBranches.2.1 42 = .ok (.aload 5, 2) := by decide +kernel
theorem dd_K_endBranches_44 : decode mt_K_endBranches.2.1 44 = .ok (.getfield 83, 3) := by decide +kernel
theorem dd_K_endBranches_47 : decode mt_K_endBranches.2.1 47 = .ok (.invokevirtual 87, 3) := by decide +kernel
theorem dd_K_endBranches_50 : decode mt_K_endBranches.2.1 50 = .ok (.ifCond .ne 14, 3) := by decide +kernel
theorem dd_K_endBranches_53 : decode mt_K_endBranches.2.1 53 = .ok (.aload 5, 2) := by decide +kernel
theorem dd_K_endBranches_55 : decode mt_K_endBranches.2.1 55 = .ok (.iconst 1, 1) := by decide +kernel
theorem dd_K_endBranches_56 : decode mt_K_endBranches.2.1 56 = .ok (.putfield 110, 3) := by decide +kernel
theorem dd_K_endBranches_59 : decode mt_K_endBranches.2.1 59 = .ok (.aload 5, 2) := by decide +kernel
theorem dd_K_endBranches_61 : decode mt_K_endBranches.2.1 61 = .ok (.invokevirtual 267, 3) := by decide +kernel
theorem dd_K_endBranches_64 : decode mt_K_endBranches.2.1 64 = .ok (.iinc 4 1, 3) := by decide +kernel
theorem dd_K_endBranches_67 : decode mt_K_endBranches.2.1 67 = .ok (.goto (-51), 3) := by decide +kernel
theorem dd_K_endBranches_70 : decode mt_K_endBranches.2.1 70 = .ok (.return_, 1) := by decide +kernel
theorem dd_K_pullIfNeeded_0 : decode mt_K_pullIfNeeded.2.1 0 = .ok (.aload_n 1, 1) := by decide +kernel
theorem dd_K_pullIfNeeded_1 : decode mt_K_pullIfNeeded.2.1 1 = .ok (.invokevirtual 270, 3) := by decide +kernel
theorem dd_K_pullIfNeeded_4 : decode mt_K_pullIfNeeded.2.1 4 = .ok (.ifCond .ne 4, 3) := by decide +kernel
theorem dd_K_pullIfNeeded_7 : decode mt_K_pullIfNeeded.2.1 7 = .ok (.return_, 1) := by decide +kernel
theorem dd_K_pullIfNeeded_8 : decode mt_K_pullIfNeeded.2.1 8 = .ok (.aload_n 1, 1) := by decide +kernel
theorem dd_K_pullIfNeeded_9 : decode mt_K_pullIfNeeded.2.1 9 = .ok (.getfield 191, 3) := by decide +kernel
theorem dd_K_pullIfNeeded_12 : decode mt_K_pullIfNeeded.2.1 12 = .ok (.astore_n 2, 1) := by decide +kernel
theorem dd_K_pullIfNeeded_13 : decode mt_K_pullIfNeeded.2.1 13 = .ok (.aload_n 2, 1) := by decide +kernel
theorem dd_K_pullIfNeeded_14 : decode mt_K_pullIfNeeded.2.1 14 = .ok (.ifnonnull 18, 3) := by decide +kernel
theorem dd_K_pullIfNeeded_17 : decode mt_K_pullIfNeeded.2.1 17 = .ok (.aload_n 0, 1) := by decide +kernel
theorem dd_K_pullIfNeeded_18 : decode mt_K_pullIfNeeded.2.1 18 = .ok (.getfield 12, 3) := by decide +kernel
theorem dd_K_pullIfNeeded_21 : decode mt_K_pullIfNeeded.2.1 21 = .ok (.iconst 1, 1) := by decide +kernel
theorem dd_K_pullIfNeeded_22 : decode mt_K_pullIfNeeded.2.1 22 = .ok (.aload_n 1, 1) := by decide +kernel
theorem dd_K_pullIfNeeded_23 : decode mt_K_pullIfNeeded.2.1 23 = .ok (.getfield 60, 3) := by decide +kernel
theorem dd_K_pullIfNeeded_26 : decode mt_K_pullIfNeeded.2.1 26 = .ok (.iconst 0, 1) := by decide +kernel
theorem dd_K_pullIfNeeded_27 : decode mt_K_pullIfNeeded.2.1 27 = .ok (.iconst 0, 1) := by decide +kernel
theorem dd_K_pullIfNeeded_28 : decode mt_K_pullIfNeeded.2.1 28 = .ok (.invokevirtual 254, 3) := by decide +kernel
theorem dd_K_pullIfNeeded_31 : decode mt_K_pullIfNeeded.2.1 31 = .ok (.return_, 1) := by decide +kernel
theorem dd_K_pullIfNeeded_32 : decode mt_K_pullIfNeeded.2.1 32 = .ok (.aload_n 2, 1) := by decide +kernel
theorem dd_K_pullIfNeeded_33 : decode mt_K_pullIfNeeded.2.1 33 = .ok (.getfield 273, 3) := by decide +kernel
theorem dd_K_pullIfNeeded_36 : decode mt_K_pullIfNeeded.2.1 36 = .ok (.ifCond .eq 11, 3) := by decide +kernel
theorem dd_K_pullIfNeeded_39 : decode mt_K_pullIfNeeded.2.1 39 = .ok (.aload_n 2, 1) := by decide +kernel
theorem dd_K_pullIfNeeded_40 : decode mt_K_pullIfNeeded.2.1 40 = .ok (.iconst 1, 1) := by decide +kernel
theorem dd_K_pullIfNeeded_41 : decode mt_K_pullIfNeeded.2.1 41 = .ok (.putfield 276, 3) := by decide +kernel
theorem dd_K_pullIfNeeded_44 : decode mt_K_pullIfNeeded.2.1 44 = .ok (.goto 16, 3) := by decide +kernel
theorem dd_K_pullIfNeeded_47 : decode mt_K_pullIfNeeded.2.1 47 = .ok (.aload_n 0, 1) := by decide +kernel
theorem dd_K_pullIfNeeded_48 : decode mt_K_pullIfNeeded.2.1 48 = .ok (.aload_n 2, 1) := by decide +kernel
theorem dd_K_pullIfNeeded_49 : decode mt_K_pullIfNeeded.2.1 49 = .ok (.invokevirtual 277, 3) := by decide +kernel
theorem dd_K_pullIfNeeded_52 : decode mt_K_pullIfNeeded.2.1 52 = .ok (.ifCond .ne 8, 3) := by decide +kernel
theorem dd_K_pullIfNeeded_55 : decode mt_K_pullIfNeeded.2.1 55 = .ok (.aload_n 0, 1) := by decide +kernel
theorem dd_K_pullIfNeeded_56 : decode mt_K_pullIfNeeded.2.1 56 = .ok (.aload_n 2, 1) := by decide +kernel
theorem dd_K_pullIfNeeded_57 : decode mt_K_pullIfNeeded.2.1 57 = .ok (.invokevirtual 203, 3) := by decide +kernel
theorem dd_K_pullIfNeeded_60 : decode mt_K_pullIfNeeded.2.1 60 = .ok (.aload_n 0, 1) := by decide +kernel
theorem dd_K_pullIfNeeded_61 : decode mt_K_pullIfNeeded.2.1 61 = .ok (.getfield 19, 3) := by decide +kernel
theorem dd_K_pullIfNeeded_64 : decode mt_K_pullIfNeeded.2.1 64 = .ok (.iconst 1, 1) := by decide +kernel
theorem dd_K_pullIfNeeded_65 : decode mt_K_pullIfNeeded.2.1 65 = .ok (.aload_n 1, 1) := by decide +kernel
theorem dd_K_pullIfNeeded_66 : decode mt_K_pullIfNeeded.2.1 66 = .ok (.getfield 60, 3) := by decide +kernel
theorem dd_K_pullIfNeeded_69 : decode mt_K_pullIfNeeded.2.1 69 = .ok (.iconst (-1), 1) := by decide +kernel
theorem dd_K_pullIfNeeded_70 : decode mt_K_pullIfNeeded.2.1 70 = .ok (.invokevirtual 129, 3) := by decide +kernel
theorem dd_K_pullIfNeeded_73 : decode mt_K_pullIfNeeded.2.1 73 = .ok (.return_, 1) := by decide +kernel
theorem dd_K_pipeAt_0 : decode mt_K_pipeAt.2.1 0 = .ok (.iload_n 1, 1) := by decide +kernel
theorem dd_K_pipeAt_1 : decode mt_K_pipeAt.2.1 1 = .ok (.ifCond .lt 20, 3) := by decide +kernel
theorem dd_K_pipeAt_4 : decode mt_K_pipeAt.2.1 4 = .ok (.iload_n 1, 1) := by decide +kernel
theorem dd_K_pipeAt_5 : decode mt_K_pipeAt.2.1 5 = .ok (.aload_n 0, 1) := by decide +kernel
theorem dd_K_pipeAt_6 : decode mt_K_pipeAt.2.1 6 = .ok (.getfield 180, 3) := by decide +kernel
theorem dd_K_pipeAt_9 : decode mt_K_pipeAt.2.1 9 = .ok (.if_icmp .ge 12, 3) := by decide +kernel
theorem dd_K_pipeAt_12 : decode mt_K_pipeAt.2.1 12 = .ok (.aload_n 0, 1) := by decide +kernel
theorem dd_K_pipeAt_13 : decode mt_K_pipeAt.2.1 13 = .ok (.getfield 37, 3) := by decide +kernel
theorem dd_K_pipeAt_16 : decode mt_K_pipeAt.2.1 16 = .ok (.iload_n 1, 1) := by decide +kernel
theorem dd_K_pipeAt_17 : decode mt_K_pipeAt.2.1 17 = .ok (.aaload, 1) := by decide +kernel
theorem dd_K_pipeAt_18 : decode mt_K_pipeAt.2.1 18 = .ok (.goto 4, 3) := by decide +kernel
theorem dd_K_pipeAt_21 : decode mt_K_pipeAt.2.1 21 = .ok (.aconst_null, 1) := by decide +kernel
theorem dd_K_pipeAt_22 : decode mt_K_pipeAt.2.1 22 = .ok (.areturn, 1) := by decide +kernel
theorem dd_K_awaitPumps_0 : decode mt_K_awaitPumps.2.1 0 = .ok (.iconst 0, 1) := by decide +kernel
theorem dd_K_awaitPumps_1 : decode mt_K_awaitPumps.2.1 1 = .ok (.istore_n 1, 1) := by decide +kernel
theorem dd_K_awaitPumps_2 : decode mt_K_awaitPumps.2.1 2 = .ok (.iload_n 1, 1) := by decide +kernel
theorem dd_K_awaitPumps_3 : decode mt_K_awaitPumps.2.1 3 = .ok (.aload_n 0, 1) := by decide +kernel
theorem dd_K_awaitPumps_4 : decode mt_K_awaitPumps.2.1 4 = .ok (.getfield 180, 3) := by decide +kernel
theorem dd_K_awaitPumps_7 : decode mt_K_awaitPumps.2.1 7 = .ok (.if_icmp .ge 50, 3) := by decide +kernel
theorem dd_K_awaitPumps_10 : decode mt_K_awaitPumps.2.1 10 = .ok (.aload_n 0, 1) := by decide +kernel
theorem dd_K_awaitPumps_11 : decode mt_K_awaitPumps.2.1 11 = .ok (.iload_n 1, 1) := by decide +kernel
theorem dd_K_awaitPumps_12 : decode mt_K_awaitPumps.2.1 12 = .ok (.invokevirtual 300, 3) := by decide +kernel
theorem dd_K_awaitPumps_15 : decode mt_K_awaitPumps.2.1 15 = .ok (.astore_n 2, 1) := by decide +kernel
theorem dd_K_awaitPumps_16 : decode mt_K_awaitPumps.2.1 16 = .ok (.aload_n 2, 1) := by decide +kernel
theorem dd_K_awaitPumps_17 : decode mt_K_awaitPumps.2.1 17 = .ok (.ifnull 34, 3) := by decide +kernel
theorem dd_K_awaitPumps_20 : decode mt_K_awaitPumps.2.1 20 = .ok (.aload_n 2, 1) := by decide +kernel
theorem dd_K_awaitPumps_21 : decode mt_K_awaitPumps.2.1 21 = .ok (.getfield 304, 3) := by decide +kernel
theorem dd_K_awaitPumps_24 : decode mt_K_awaitPumps.2.1 24 = .ok (.ifCond .ne 27, 3) := by decide +kernel
theorem dd_K_awaitPumps_27 : decode mt_K_awaitPumps.2.1 27 = .ok (.aload_n 0, 1) := by decide +kernel
theorem dd_K_awaitPumps_28 : decode mt_K_awaitPumps.2.1 28 = .ok (.getfield 19, 3) := by decide +kernel
theorem dd_K_awaitPumps_31 : decode mt_K_awaitPumps.2.1 31 = .ok (.bipush 6, 2) := by decide +kernel
theorem dd_K_awaitPumps_33 : decode mt_K_awaitPumps.2.1 33 = .ok (.iload_n 1, 1) := by decide +kernel
theorem dd_K_awaitPumps_34 : decode mt_K_awaitPumps.2.1 34 = .ok (.invokevirtual 122, 3) := by decide +kernel
theorem dd_K_awaitPumps_37 : decode mt_K_awaitPumps.2.1 37 = .ok (.ifCond .ne 14, 3) := by decide +kernel
theorem dd_K_awaitPumps_40 : decode mt_K_awaitPumps.2.1 40 = .ok (.aload_n 0, 1) := by decide +kernel
theorem dd_K_awaitPumps_41 : decode mt_K_awaitPumps.2.1 41 = .ok (.getfield 19, 3) := by decide +kernel
theorem dd_K_awaitPumps_44 : decode mt_K_awaitPumps.2.1 44 = .ok (.bipush 6, 2) := by decide +kernel
theorem dd_K_awaitPumps_46 : decode mt_K_awaitPumps.2.1 46 = .ok (.iload_n 1, 1) := by decide +kernel
theorem dd_K_awaitPumps_47 : decode mt_K_awaitPumps.2.1 47 = .ok (.iconst 0, 1) := by decide +kernel
theorem dd_K_awaitPumps_48 : decode mt_K_awaitPumps.2.1 48 = .ok (.invokevirtual 129, 3) := by decide +kernel
theorem dd_K_awaitPumps_51 : decode mt_K_awaitPumps.2.1 51 = .ok (.iinc 1 1, 3) := by decide +kernel
theorem dd_K_awaitPumps_54 : decode mt_K_awaitPumps.2.1 54 = .ok (.goto (-52), 3) := by decide +kernel
theorem dd_K_awaitPumps_57 : decode mt_K_awaitPumps.2.1 57 = .ok (.return_, 1) := by decide +kernel
theorem dd_K_giver_0 : decode mt_K_giver.2.1 0 = .ok (.iload_n 1, 1) := by decide +kernel
theorem dd_K_giver_1 : decode mt_K_giver.2.1 1 = .ok (.invokestatic 41, 3) := by decide +kernel
theorem dd_K_giver_4 : decode mt_K_giver.2.1 4 = .ok (.ifCond .ne 5, 3) := by decide +kernel
theorem dd_K_giver_7 : decode mt_K_giver.2.1 7 = .ok (.iconst (-1), 1) := by decide +kernel
theorem dd_K_giver_8 : decode mt_K_giver.2.1 8 = .ok (.ireturn, 1) := by decide +kernel
theorem dd_K_giver_9 : decode mt_K_giver.2.1 9 = .ok (.aload_n 0, 1) := by decide +kernel
theorem dd_K_giver_10 : decode mt_K_giver.2.1 10 = .ok (.getfield 45, 3) := by decide +kernel
theorem dd_K_giver_13 : decode mt_K_giver.2.1 13 = .ok (.bipush 6, 2) := by decide +kernel
theorem dd_K_giver_15 : decode mt_K_giver.2.1 15 = .ok (.if_icmp .lt 6, 3) := by decide +kernel
theorem dd_K_giver_18 : decode mt_K_giver.2.1 18 = .ok (.bipush (-2), 2) := by decide +kernel
theorem dd_K_giver_20 : decode mt_K_giver.2.1 20 = .ok (.ireturn, 1) := by decide +kernel
theorem dd_K_giver_21 : decode mt_K_giver.2.1 21 = .ok (.aload_n 0, 1) := by decide +kernel
theorem dd_K_giver_22 : decode mt_K_giver.2.1 22 = .ok (.iload_n 1, 1) := by decide +kernel
theorem dd_K_giver_23 : decode mt_K_giver.2.1 23 = .ok (.iload_n 2, 1) := by decide +kernel
theorem dd_K_giver_24 : decode mt_K_giver.2.1 24 = .ok (.invokevirtual 49, 3) := by decide +kernel
theorem dd_K_giver_27 : decode mt_K_giver.2.1 27 = .ok (.astore_n 3, 1) := by decide +kernel
theorem dd_K_giver_28 : decode mt_K_giver.2.1 28 = .ok (.aload_n 0, 1) := by decide +kernel
theorem dd_K_giver_29 : decode mt_K_giver.2.1 29 = .ok (.aload_n 3, 1) := by decide +kernel
theorem dd_K_giver_30 : decode mt_K_giver.2.1 30 = .ok (.invokevirtual 53, 3) := by decide +kernel
theorem dd_K_giver_33 : decode mt_K_giver.2.1 33 = .ok (.aload_n 0, 1) := by decide +kernel
theorem dd_K_giver_34 : decode mt_K_giver.2.1 34 = .ok (.invokevirtual 57, 3) := by decide +kernel
theorem dd_K_giver_37 : decode mt_K_giver.2.1 37 = .ok (.aload_n 3, 1) := by decide +kernel
theorem dd_K_giver_38 : decode mt_K_giver.2.1 38 = .ok (.getfield 60, 3) := by decide +kernel
theorem dd_K_giver_41 : decode mt_K_giver.2.1 41 = .ok (.ireturn, 1) := by decide +kernel
theorem dd_K_taker_0 : decode mt_K_taker.2.1 0 = .ok (.iload_n 1, 1) := by decide +kernel
theorem dd_K_taker_1 : decode mt_K_taker.2.1 1 = .ok (.invokestatic 41, 3) := by decide +kernel
theorem dd_K_taker_4 : decode mt_K_taker.2.1 4 = .ok (.ifCond .ne 5, 3) := by decide +kernel
theorem dd_K_taker_7 : decode mt_K_taker.2.1 7 = .ok (.iconst (-1), 1) := by decide +kernel
theorem dd_K_taker_8 : decode mt_K_taker.2.1 8 = .ok (.ireturn, 1) := by decide +kernel
theorem dd_K_taker_9 : decode mt_K_taker.2.1 9 = .ok (.aload_n 0, 1) := by decide +kernel
theorem dd_K_taker_10 : decode mt_K_taker.2.1 10 = .ok (.getfield 63, 3) := by decide +kernel
theorem dd_K_taker_13 : decode mt_K_taker.2.1 13 = .ok (.iconst 2, 1) := by decide +kernel
theorem dd_K_taker_14 : decode mt_K_taker.2.1 14 = .ok (.if_icmp .lt 6, 3) := by decide +kernel
theorem dd_K_taker_17 : decode mt_K_taker.2.1 17 = .ok (.bipush (-2), 2) := by decide +kernel
theorem dd_K_taker_19 : decode mt_K_taker.2.1 19 = .ok (.ireturn, 1) := by decide +kernel
theorem dd_K_taker_20 : decode mt_K_taker.2.1 20 = .ok (.new 29, 3) := by decide +kernel
theorem dd_K_taker_23 : decode mt_K_taker.2.1 23 = .ok (.dup, 1) := by decide +kernel
theorem dd_K_taker_24 : decode mt_K_taker.2.1 24 = .ok (.aload_n 0, 1) := by decide +kernel
theorem dd_K_taker_25 : decode mt_K_taker.2.1 25 = .ok (.getfield 63, 3) := by decide +kernel
theorem dd_K_taker_28 : decode mt_K_taker.2.1 28 = .ok (.new 66, 3) := by decide +kernel
theorem dd_K_taker_31 : decode mt_K_taker.2.1 31 = .ok (.dup, 1) := by decide +kernel
theorem dd_K_taker_32 : decode mt_K_taker.2.1 32 = .ok (.iload_n 1, 1) := by decide +kernel
theorem dd_K_taker_33 : decode mt_K_taker.2.1 33 = .ok (.iload_n 2, 1) := by decide +kernel
theorem dd_K_taker_34 : decode mt_K_taker.2.1 34 = .ok (.invokespecial 68, 3) := by decide +kernel
theorem dd_K_taker_37 : decode mt_K_taker.2.1 37 = .ok (.aload_n 0, 1) := by decide +kernel
theorem dd_K_taker_38 : decode mt_K_taker.2.1 38 = .ok (.getfield 12, 3) := by decide +kernel
theorem dd_K_taker_41 : decode mt_K_taker.2.1 41 = .ok (.invokespecial 71, 3) := by decide +kernel
theorem dd_K_taker_44 : decode mt_K_taker.2.1 44 = .ok (.astore_n 3, 1) := by decide +kernel
theorem dd_K_taker_45 : decode mt_K_taker.2.1 45 = .ok (.aload_n 0, 1) := by decide +kernel
theorem dd_K_taker_46 : decode mt_K_taker.2.1 46 = .ok (.getfield 31, 3) := by decide +kernel
theorem dd_K_taker_49 : decode mt_K_taker.2.1 49 = .ok (.aload_n 0, 1) := by decide +kernel
theorem dd_K_taker_50 : decode mt_K_taker.2.1 50 = .ok (.getfield 63, 3) := by decide +kernel
theorem dd_K_taker_53 : decode mt_K_taker.2.1 53 = .ok (.aload_n 3, 1) := by decide +kernel
theorem dd_K_taker_54 : decode mt_K_taker.2.1 54 = .ok (.aastore, 1) := by decide +kernel
theorem dd_K_taker_55 : decode mt_K_taker.2.1 55 = .ok (.aload_n 0, 1) := by decide +kernel
theorem dd_K_taker_56 : decode mt_K_taker.2.1 56 = .ok (.dup, 1) := by decide +kernel
theorem dd_K_taker_57 : decode mt_K_taker.2.1 57 = .ok (.getfield 63, 3) := by decide +kernel
theorem dd_K_taker_60 : decode mt_K_taker.2.1 60 = .ok (.iconst 1, 1) := by decide +kernel
theorem dd_K_taker_61 : decode mt_K_taker.2.1 61 = .ok (.iadd, 1) := by decide +kernel
theorem dd_K_taker_62 : decode mt_K_taker.2.1 62 = .ok (.putfield 63, 3) := by decide +kernel
theorem dd_K_taker_65 : decode mt_K_taker.2.1 65 = .ok (.aload_n 0, 1) := by decide +kernel
theorem dd_K_taker_66 : decode mt_K_taker.2.1 66 = .ok (.invokevirtual 57, 3) := by decide +kernel
theorem dd_K_taker_69 : decode mt_K_taker.2.1 69 = .ok (.aload_n 3, 1) := by decide +kernel
theorem dd_K_taker_70 : decode mt_K_taker.2.1 70 = .ok (.getfield 74, 3) := by decide +kernel
theorem dd_K_taker_73 : decode mt_K_taker.2.1 73 = .ok (.ireturn, 1) := by decide +kernel
theorem dd_K_giverAt_0 : decode mt_K_giverAt.2.1 0 = .ok (.iload_n 1, 1) := by decide +kernel
theorem dd_K_giverAt_1 : decode mt_K_giverAt.2.1 1 = .ok (.ifCond .lt 20, 3) := by decide +kernel
theorem dd_K_giverAt_4 : decode mt_K_giverAt.2.1 4 = .ok (.iload_n 1, 1) := by decide +kernel
theorem dd_K_giverAt_5 : decode mt_K_giverAt.2.1 5 = .ok (.aload_n 0, 1) := by decide +kernel
theorem dd_K_giverAt_6 : decode mt_K_giverAt.2.1 6 = .ok (.getfield 45, 3) := by decide +kernel
theorem dd_K_giverAt_9 : decode mt_K_giverAt.2.1 9 = .ok (.if_icmp .ge 12, 3) := by decide +kernel
theorem dd_K_giverAt_12 : decode mt_K_giverAt.2.1 12 = .ok (.aload_n 0, 1) := by decide +kernel
theorem dd_K_giverAt_13 : decode mt_K_giverAt.2.1 13 = .ok (.getfield 25, 3) := by decide +kernel
theorem dd_K_giverAt_16 : decode mt_K_giverAt.2.1 16 = .ok (.iload_n 1, 1) := by decide +kernel
theorem dd_K_giverAt_17 : decode mt_K_giverAt.2.1 17 = .ok (.aaload, 1) := by decide +kernel
theorem dd_K_giverAt_18 : decode mt_K_giverAt.2.1 18 = .ok (.goto 4, 3) := by decide +kernel
theorem dd_K_giverAt_21 : decode mt_K_giverAt.2.1 21 = .ok (.aconst_null, 1) := by decide +kernel
theorem dd_K_giverAt_22 : decode mt_K_giverAt.2.1 22 = .ok (.areturn, 1) := by decide +kernel
theorem dd_K_rootAt_0 : decode mt_K_rootAt.2.1 0 = .ok (.aload_n 0, 1) := by decide +kernel
theorem dd_K_rootAt_1 : decode mt_K_rootAt.2.1 1 = .ok (.iload_n 1, 1) := by decide +kernel
theorem dd_K_rootAt_2 : decode mt_K_rootAt.2.1 2 = .ok (.invokevirtual 133, 3) := by decide +kernel
theorem dd_K_rootAt_5 : decode mt_K_rootAt.2.1 5 = .ok (.astore_n 2, 1) := by decide +kernel
theorem dd_K_rootAt_6 : decode mt_K_rootAt.2.1 6 = .ok (.aload_n 2, 1) := by decide +kernel
theorem dd_K_rootAt_7 : decode mt_K_rootAt.2.1 7 = .ok (.ifnull 14, 3) := by decide +kernel
theorem dd_K_rootAt_10 : decode mt_K_rootAt.2.1 10 = .ok (.aload_n 2, 1) := by decide +kernel
theorem dd_K_rootAt_11 : decode mt_K_rootAt.2.1 11 = .ok (.getfield 191, 3) := by decide +kernel
theorem dd_K_rootAt_14 : decode mt_K_rootAt.2.1 14 = .ok (.ifnonnull 7, 3) := by decide +kernel
theorem dd_K_rootAt_17 : decode mt_K_rootAt.2.1 17 = .ok (.aload_n 2, 1) := by decide +kernel
theorem dd_K_rootAt_18 : decode mt_K_rootAt.2.1 18 = .ok (.goto 4, 3) := by decide +kernel
theorem dd_K_rootAt_21 : decode mt_K_rootAt.2.1 21 = .ok (.aconst_null, 1) := by decide +kernel
theorem dd_K_rootAt_22 : decode mt_K_rootAt.2.1 22 = .ok (.areturn, 1) := by decide +kernel
theorem dd_K_answerChunk_0 : decode mt_K_answerChunk.2.1 0 = .ok (.iload_n 2, 1) := by decide +kernel
theorem dd_K_answerChunk_1 : decode mt_K_answerChunk.2.1 1 = .ok (.ifCond .eq 21, 3) := by decide +kernel
theorem dd_K_answerChunk_4 : decode mt_K_answerChunk.2.1 4 = .ok (.aload_n 0, 1) := by decide +kernel
theorem dd_K_answerChunk_5 : decode mt_K_answerChunk.2.1 5 = .ok (.getfield 12, 3) := by decide +kernel
theorem dd_K_answerChunk_8 : decode mt_K_answerChunk.2.1 8 = .ok (.bipush 6, 2) := by decide +kernel
theorem dd_K_answerChunk_10 : decode mt_K_answerChunk.2.1 10 = .ok (.aload_n 1, 1) := by decide +kernel
theorem dd_K_answerChunk_11 : decode mt_K_answerChunk.2.1 11 = .ok (.getfield 60, 3) := by decide +kernel
theorem dd_K_answerChunk_14 : decode mt_K_answerChunk.2.1 14 = .ok (.iload_n 2, 1) := by decide +kernel
theorem dd_K_answerChunk_15 : decode mt_K_answerChunk.2.1 15 = .ok (.iload_n 3, 1) := by decide +kernel
theorem dd_K_answerChunk_16 : decode mt_K_answerChunk.2.1 16 = .ok (.invokevirtual 254, 3) := by decide +kernel
theorem dd_K_answerChunk_19 : decode mt_K_answerChunk.2.1 19 = .ok (.goto 45, 3) := by decide +kernel
theorem dd_K_answerChunk_22 : decode mt_K_answerChunk.2.1 22 = .ok (.aload_n 1, 1) := by decide +kernel
theorem dd_K_answerChunk_23 : decode mt_K_answerChunk.2.1 23 = .ok (.getfield 200, 3) := by decide +kernel
theorem dd_K_answerChunk_26 : decode mt_K_answerChunk.2.1 26 = .ok (.ifnull 19, 3) := by decide +kernel
theorem dd_K_answerChunk_29 : decode mt_K_answerChunk.2.1 29 = .ok (.aload_n 0, 1) := by decide +kernel
theorem dd_K_answerChunk_30 : decode mt_K_answerChunk.2.1 30 = .ok (.getfield 19, 3) := by decide +kernel
theorem dd_K_answerChunk_33 : decode mt_K_answerChunk.2.1 33 = .ok (.iconst 2, 1) := by decide +kernel
theorem dd_K_answerChunk_34 : decode mt_K_answerChunk.2.1 34 = .ok (.aload_n 1, 1) := by decide +kernel
theorem dd_K_answerChunk_35 : decode mt_K_answerChunk.2.1 35 = .ok (.getfield 60, 3) := by decide +kernel
theorem dd_K_answerChunk_38 : decode mt_K_answerChunk.2.1 38 = .ok (.iload_n 3, 1) := by decide +kernel
theorem dd_K_answerChunk_39 : decode mt_K_answerChunk.2.1 39 = .ok (.invokevirtual 129, 3) := by decide +kernel
theorem dd_K_answerChunk_42 : decode mt_K_answerChunk.2.1 42 = .ok (.goto 22, 3) := by decide +kernel
theorem dd_K_answerChunk_45 : decode mt_K_answerChunk.2.1 45 = .ok (.aload_n 1, 1) := by decide +kernel
theorem dd_K_answerChunk_46 : decode mt_K_answerChunk.2.1 46 = .ok (.getfield 186, 3) := by decide +kernel
theorem dd_K_answerChunk_49 : decode mt_K_answerChunk.2.1 49 = .ok (.ifnull 15, 3) := by decide +kernel
theorem dd_K_answerChunk_52 : decode mt_K_answerChunk.2.1 52 = .ok (.aload_n 1, 1) := by decide +kernel
theorem dd_K_answerChunk_53 : decode mt_K_answerChunk.2.1 53 = .ok (.getfield 186, 3) := by decide +kernel
theorem dd_K_answerChunk_56 : decode mt_K_answerChunk.2.1 56 = .ok (.getfield 258, 3) := by decide +kernel
theorem dd_K_answerChunk_59 : decode mt_K_answerChunk.2.1 59 = .ok (.iload_n 3, 1) := by decide +kernel
theorem dd_K_answerChunk_60 : decode mt_K_answerChunk.2.1 60 = .ok (.invokevirtual 156, 3) := by decide +kernel
theorem dd_K_answerChunk_63 : decode mt_K_answerChunk.2.1 63 = .ok (.pop, 1) := by decide +kernel
theorem dd_K_answerChunk_64 : decode mt_K_answerChunk.2.1 64 = .ok (.return_, 1) := by decide +kernel
theorem dd_K_takeIn_0 : decode mt_K_takeIn.2.1 0 = .ok (.aload_n 1, 1) := by decide +kernel
theorem dd_K_takeIn_1 : decode mt_K_takeIn.2.1 1 = .ok (.getfield 91, 3) := by decide +kernel
theorem dd_K_takeIn_4 : decode mt_K_takeIn.2.1 4 = .ok (.getfield 95, 3) := by decide +kernel
theorem dd_K_takeIn_7 : decode mt_K_takeIn.2.1 7 = .ok (.ifCond .le 19, 3) := by decide +kernel
theorem dd_K_takeIn_10 : decode mt_K_takeIn.2.1 10 = .ok (.aload_n 0, 1) := by decide +kernel
theorem dd_K_takeIn_11 : decode mt_K_takeIn.2.1 11 = .ok (.aload_n 1, 1) := by decide +kernel
theorem dd_K_takeIn_12 : decode mt_K_takeIn.2.1 12 = .ok (.aload_n 1, 1) := by decide +kernel
theorem dd_K_takeIn_13 : decode mt_K_takeIn.2.1 13 = .ok (.getfield 91, 3) := by decide +kernel
theorem dd_K_takeIn_16 : decode mt_K_takeIn.2.1 16 = .ok (.invokevirtual 245, 3) := by decide +kernel
theorem dd_K_takeIn_19 : decode mt_K_takeIn.2.1 19 = .ok (.iload_n 2, 1) := by decide +kernel
theorem dd_K_takeIn_20 : decode mt_K_takeIn.2.1 20 = .ok (.invokevirtual 248, 3) := by decide +kernel
theorem dd_K_takeIn_23 : decode mt_K_takeIn.2.1 23 = .ok (.goto 11, 3) := by decide +kernel
theorem dd_K_takeIn_26 : decode mt_K_takeIn.2.1 26 = .ok (.aload_n 1, 1) := by decide +kernel
theorem dd_K_takeIn_27 : decode mt_K_takeIn.2.1 27 = .ok (.getfield 83, 3) := by decide +kernel
theorem dd_K_takeIn_30 : decode mt_K_takeIn.2.1 30 = .ok (.iload_n 2, 1) := by decide +kernel
theorem dd_K_takeIn_31 : decode mt_K_takeIn.2.1 31 = .ok (.invokevirtual 252, 3) := by decide +kernel
theorem dd_K_takeIn_34 : decode mt_K_takeIn.2.1 34 = .ok (.aload_n 0, 1) := by decide +kernel
theorem dd_K_takeIn_35 : decode mt_K_takeIn.2.1 35 = .ok (.aload_n 1, 1) := by decide +kernel
theorem dd_K_takeIn_36 : decode mt_K_takeIn.2.1 36 = .ok (.invokevirtual 53, 3) := by decide +kernel
theorem dd_K_takeIn_39 : decode mt_K_takeIn.2.1 39 = .ok (.return_, 1) := by decide +kernel
theorem dd_K_put_0 : decode mt_K_put.2.1 0 = .ok (.aload_n 0, 1) := by decide +kernel
theorem dd_K_put_1 : decode mt_K_put.2.1 1 = .ok (.iload_n 1, 1) := by decide +kernel
theorem dd_K_put_2 : decode mt_K_put.2.1 2 = .ok (.invokevirtual 75, 3) := by decide +kernel
theorem dd_K_put_5 : decode mt_K_put.2.1 5 = .ok (.astore_n 3, 1) := by decide +kernel
theorem dd_K_put_6 : decode mt_K_put.2.1 6 = .ok (.aload_n 3, 1) := by decide +kernel
theorem dd_K_put_7 : decode mt_K_put.2.1 7 = .ok (.ifnull 10, 3) := by decide +kernel
theorem dd_K_put_10 : decode mt_K_put.2.1 10 = .ok (.aload_n 3, 1) := by decide +kernel
theorem dd_K_put_11 : decode mt_K_put.2.1 11 = .ok (.invokevirtual 79, 3) := by decide +kernel
theorem dd_K_put_14 : decode mt_K_put.2.1 14 = .ok (.ifCond .ne 5, 3) := by decide +kernel
theorem dd_K_put_17 : decode mt_K_put.2.1 17 = .ok (.iconst 0, 1) := by decide +kernel
theorem dd_K_put_18 : decode mt_K_put.2.1 18 = .ok (.ireturn, 1) := by decide +kernel
theorem dd_K_put_19 : decode mt_K_put.2.1 19 = .ok (.aload_n 3, 1) := by decide +kernel
theorem dd_K_put_20 : decode mt_K_put.2.1 20 = .ok (.getfield 83, 3) := by decide +kernel
theorem dd_K_put_23 : decode mt_K_put.2.1 23 = .ok (.invokevirtual 87, 3) := by decide +kernel
theorem dd_K_put_26 : decode mt_K_put.2.1 26 = .ok (.bipush 16, 2) := by decide +kernel
theorem dd_K_put_28 : decode mt_K_put.2.1 28 = .ok (.if_icmp .lt 15, 3) := by decide +kernel
theorem dd_K_put_31 : decode mt_K_put.2.1 31 = .ok (.aload_n 3, 1) := by decide +kernel
theorem dd_K_put_32 : decode mt_K_put.2.1 32 = .ok (.getfield 91, 3) := by decide +kernel
theorem dd_K_put_35 : decode mt_K_put.2.1 35 = .ok (.getfield 95, 3) := by decide +kernel
theorem dd_K_put_38 : decode mt_K_put.2.1 38 = .ok (.ifCond .ne 5, 3) := by decide +kernel
theorem dd_K_put_41 : decode mt_K_put.2.1 41 = .ok (.iconst 0, 1) := by decide +kernel
theorem dd_K_put_42 : decode mt_K_put.2.1 42 = .ok (.ireturn, 1) := by decide +kernel
theorem dd_K_put_43 : decode mt_K_put.2.1 43 = .ok (.aload_n 0, 1) := by decide +kernel
theorem dd_K_put_44 : decode mt_K_put.2.1 44 = .ok (.aload_n 3, 1) := by decide +kernel
theorem dd_K_put_45 : decode mt_K_put.2.1 45 = .ok (.iload_n 2, 1) := by decide +kernel
theorem dd_K_put_46 : decode mt_K_put.2.1 46 = .ok (.invokevirtual 99, 3) := by decide +kernel
theorem dd_K_put_49 : decode mt_K_put.2.1 49 = .ok (.aload_n 0, 1) := by decide +kernel
theorem dd_K_put_50 : decode mt_K_put.2.1 50 = .ok (.invokevirtual 57, 3) := by decide +kernel
theorem dd_K_put_53 : decode mt_K_put.2.1 53 = .ok (.iconst 1, 1) := by decide +kernel
theorem dd_K_put_54 : decode mt_K_put.2.1 54 = .ok (.ireturn, 1) := by decide +kernel
theorem dd_K_closeGiver_0 : decode mt_K_closeGiver.2.1 0 = .ok (.aload_n 1, 1) := by decide +kernel
theorem dd_K_closeGiver_1 : decode mt_K_closeGiver.2.1 1 = .ok (.getfield 200, 3) := by decide +kernel
theorem dd_K_closeGiver_4 : decode mt_K_closeGiver.2.1 4 = .ok (.ifnull 17, 3) := by decide +kernel
theorem dd_K_closeGiver_7 : decode mt_K_closeGiver.2.1 7 = .ok (.aload_n 1, 1) := by decide +kernel
theorem dd_K_closeGiver_8 : decode mt_K_closeGiver.2.1 8 = .ok (.getfield 91, 3) := by decide +kernel
theorem dd_K_closeGiver_11 : decode mt_K_closeGiver.2.1 11 = .ok (.getfield 95, 3) := by decide +kernel
theorem dd_K_closeGiver_14 : decode mt_K_closeGiver.2.1 14 = .ok (.ifCond .le 7, 3) := by decide +kernel
theorem dd_K_closeGiver_17 : decode mt_K_closeGiver.2.1 17 = .ok (.iconst 1, 1) := by decide +kernel
theorem dd_K_closeGiver_18 : decode mt_K_closeGiver.2.1 18 = .ok (.goto 4, 3) := by decide +kernel
theorem dd_K_closeGiver_21 : decode mt_K_closeGiver.2.1 21 = .ok (.iconst 0, 1) := by decide +kernel
theorem dd_K_closeGiver_22 : decode mt_K_closeGiver.2.1 22 = .ok (.istore_n 2, 1) := by decide +kernel
theorem dd_K_closeGiver_23 : decode mt_K_closeGiver.2.1 23 = .ok (.aload_n 1, 1) := by decide +kernel
theorem dd_K_closeGiver_24 : decode mt_K_closeGiver.2.1 24 = .ok (.iconst 1, 1) := by decide +kernel
theorem dd_K_closeGiver_25 : decode mt_K_closeGiver.2.1 25 = .ok (.putfield 110, 3) := by decide +kernel
theorem dd_K_closeGiver_28 : decode mt_K_closeGiver.2.1 28 = .ok (.aload_n 1, 1) := by decide +kernel
theorem dd_K_closeGiver_29 : decode mt_K_closeGiver.2.1 29 = .ok (.invokevirtual 267, 3) := by decide +kernel
theorem dd_K_closeGiver_32 : decode mt_K_closeGiver.2.1 32 = .ok (.iload_n 2, 1) := by decide +kernel
theorem dd_K_closeGiver_33 : decode mt_K_closeGiver.2.1 33 = .ok (.ifCond .eq 11, 3) := by decide +kernel
theorem dd_K_closeGiver_36 : decode mt_K_closeGiver.2.1 36 = .ok (.aload_n 0, 1) := by decide +kernel
theorem dd_K_closeGiver_37 : decode mt_K_closeGiver.2.1 37 = .ok (.aload_n 1, 1) := by decide +kernel
theorem dd_K_closeGiver_38 : decode mt_K_closeGiver.2.1 38 = .ok (.getfield 200, 3) := by decide +kernel
theorem dd_K_closeGiver_41 : decode mt_K_closeGiver.2.1 41 = .ok (.invokevirtual 203, 3) := by decide +kernel
theorem dd_K_closeGiver_44 : decode mt_K_closeGiver.2.1 44 = .ok (.return_, 1) := by decide +kernel
theorem dd_K_end_0 : decode mt_K_end.2.1 0 = .ok (.aload_n 0, 1) := by decide +kernel
theorem dd_K_end_1 : decode mt_K_end.2.1 1 = .ok (.iload_n 1, 1) := by decide +kernel
theorem dd_K_end_2 : decode mt_K_end.2.1 2 = .ok (.invokevirtual 75, 3) := by decide +kernel
theorem dd_K_end_5 : decode mt_K_end.2.1 5 = .ok (.astore_n 2, 1) := by decide +kernel
theorem dd_K_end_6 : decode mt_K_end.2.1 6 = .ok (.aload_n 2, 1) := by decide +kernel
theorem dd_K_end_7 : decode mt_K_end.2.1 7 = .ok (.ifnull 10, 3) := by decide +kernel
theorem dd_K_end_10 : decode mt_K_end.2.1 10 = .ok (.aload_n 2, 1) := by decide +kernel
theorem dd_K_end_11 : decode mt_K_end.2.1 11 = .ok (.invokevirtual 79, 3) := by decide +kernel
theorem dd_K_end_14 : decode mt_K_end.2.1 14 = .ok (.ifCond .ne 5, 3) := by decide +kernel
theorem dd_K_end_17 : decode mt_K_end.2.1 17 = .ok (.iconst 0, 1) := by decide +kernel
theorem dd_K_end_18 : decode mt_K_end.2.1 18 = .ok (.ireturn, 1) := by decide +kernel
theorem dd_K_end_19 : decode mt_K_end.2.1 19 = .ok (.aload_n 2, 1) := by decide +kernel
theorem dd_K_end_20 : decode mt_K_end.2.1 20 = .ok (.iconst 1, 1) := by decide +kernel
theorem dd_K_end_21 : decode mt_K_end.2.1 21 = .ok (.putfield 103, 3) := by decide +kernel
theorem dd_K_end_24 : decode mt_K_end.2.1 24 = .ok (.aload_n 2, 1) := by decide +kernel
theorem dd_K_end_25 : decode mt_K_end.2.1 25 = .ok (.getfield 83, 3) := by decide +kernel
theorem dd_K_end_28 : decode mt_K_end.2.1 28 = .ok (.invokevirtual 87, 3) := by decide +kernel
theorem dd_K_end_31 : decode mt_K_end.2.1 31 = .ok (.ifCond .ne 8, 3) := by decide +kernel
theorem dd_K_end_34 : decode mt_K_end.2.1 34 = .ok (.aload_n 0, 1) := by decide +kernel
theorem dd_K_end_35 : decode mt_K_end.2.1 35 = .ok (.aload_n 2, 1) := by decide +kernel
theorem dd_K_end_36 : decode mt_K_end.2.1 36 = .ok (.invokevirtual 107, 3) := by decide +kernel
theorem dd_K_end_39 : decode mt_K_end.2.1 39 = .ok (.aload_n 0, 1) := by decide +kernel
theorem dd_K_end_40 : decode mt_K_end.2.1 40 = .ok (.invokevirtual 57, 3) := by decide +kernel
theorem dd_K_end_43 : decode mt_K_end.2.1 43 = .ok (.iconst 1, 1) := by decide +kernel
theorem dd_K_end_44 : decode mt_K_end.2.1 44 = .ok (.ireturn, 1) := by decide +kernel
theorem dd_K_isError_0 : decode mt_K_isError.2.1 0 = .ok (.iload_n 0, 1) := by decide +kernel
theorem dd_K_isError_1 : decode mt_K_isError.2.1 1 = .ok (.ifCond .lt 13, 3) := by decide +kernel
theorem dd_K_isError_4 : decode mt_K_isError.2.1 4 = .ok (.iload_n 0, 1) := by decide +kernel
theorem dd_K_isError_5 : decode mt_K_isError.2.1 5 = .ok (.bipush 99, 2) := by decide +kernel
theorem dd_K_isError_7 : decode mt_K_isError.2.1 7 = .ok (.if_icmp .gt 7, 3) := by decide +kernel
theorem dd_K_isError_10 : decode mt_K_isError.2.1 10 = .ok (.iconst 1, 1) := by decide +kernel
theorem dd_K_isError_11 : decode mt_K_isError.2.1 11 = .ok (.goto 4, 3) := by decide +kernel
theorem dd_K_isError_14 : decode mt_K_isError.2.1 14 = .ok (.iconst 0, 1) := by decide +kernel
theorem dd_K_isError_15 : decode mt_K_isError.2.1 15 = .ok (.ireturn, 1) := by decide +kernel
theorem dd_K_failBranches_0 : decode mt_K_failBranches.2.1 0 = .ok (.aload_n 1, 1) := by decide +kernel
theorem dd_K_failBranches_1 : decode mt_K_failBranches.2.1 1 = .ok (.getfield 285, 3) := by decide +kernel
theorem dd_K_failBranches_4 : decode mt_K_failBranches.2.1 4 = .ok (.astore_n 3, 1) := by decide +kernel
theorem dd_K_failBranches_5 : decode mt_K_failBranches.2.1 5 = .ok (.aload_n 3, 1) := by decide +kernel
theorem dd_K_failBranches_6 : decode mt_K_failBranches.2.1 6 = .ok (.arraylength, 1) := by decide +kernel
theorem dd_K_failBranches_7 : decode mt_K_failBranches.2.1 7 = .ok (.istore 4, 2) := by decide +kernel
theorem dd_K_failBranches_9 : decode mt_K_failBranches.2.1 9 = .ok (.iconst 0, 1) := by decide +kernel
theorem dd_K_failBranches_10 : decode mt_K_failBranches.2.1 10 = .ok (.istore 5, 2) := by decide +kernel
theorem dd_K_failBranches_12 : decode mt_K_failBranches.2.1 12 = .ok (.iload 5, 2) := by decide +kernel
theorem dd_K_failBranches_14 : decode mt_K_failBranches.2.1 14 = .ok (.iload 4, 2) := by decide +kernel
theorem dd_K_failBranches_16 : decode mt_K_failBranches.2.1 16 = .ok (.if_icmp .ge 21, 3) := by decide +kernel
theorem dd_K_failBranches_19 : decode mt_K_failBranches.2.1 19 = .ok (.aload_n 3, 1) := by decide +kernel
theorem dd_K_failBranches_20 : decode mt_K_failBranches.2.1 20 = .ok (.iload 5, 2) := by decide +kernel
theorem dd_K_failBranches_22 : decode mt_K_failBranches.2.1 22 = .ok (.aaload, 1) := by decide +kernel
theorem dd_K_failBranches_23 : decode mt_K_failBranches.2.1 23 = .ok (.astore 6, 2) := by decide +kernel
theorem dd_K_failBranches_25 : decode mt_K_failBranches.2.1 25 = .ok (.aload 6, 2) := by decide +kernel
theorem dd_K_failBranches_27 : decode mt_K_failBranches.2.1 27 = .ok (.iload_n 2, 1) := by decide +kernel
theorem dd_K_failBranches_28 : decode mt_K_failBranches.2.1 28 = .ok (.invokevirtual 288, 3) := by decide +kernel
theorem dd_K_failBranches_31 : decode mt_K_failBranches.2.1 31 = .ok (.iinc 5 1, 3) := by decide +kernel
theorem dd_K_failBranches_34 : decode mt_K_failBranches.2.1 34 = .ok (.goto (-22), 3) := by decide +kernel
theorem dd_K_failBranches_37 : decode mt_K_failBranches.2.1 37 = .ok (.return_, 1) := by decide +kernel
theorem dd_K_failGiver_0 : decode mt_K_failGiver.2.1 0 = .ok (.aload_n 1, 1) := by decide +kernel
theorem dd_K_failGiver_1 : decode mt_K_failGiver.2.1 1 = .ok (.getfield 110, 3) := by decide +kernel
theorem dd_K_failGiver_4 : decode mt_K_failGiver.2.1 4 = .ok (.ifCond .eq 4, 3) := by decide +kernel
theorem dd_K_failGiver_7 : decode mt_K_failGiver.2.1 7 = .ok (.return_, 1) := by decide +kernel
theorem dd_K_failGiver_8 : decode mt_K_failGiver.2.1 8 = .ok (.aload_n 1, 1) := by decide +kernel
theorem dd_K_failGiver_9 : decode mt_K_failGiver.2.1 9 = .ok (.getfield 200, 3) := by decide +kernel
theorem dd_K_failGiver_12 : decode mt_K_failGiver.2.1 12 = .ok (.astore_n 3, 1) := by decide +kernel
theorem dd_K_failGiver_13 : decode mt_K_failGiver.2.1 13 = .ok (.aload_n 3, 1) := by decide +kernel
theorem dd_K_failGiver_14 : decode mt_K_failGiver.2.1 14 = .ok (.ifnull 18, 3) := by decide +kernel
theorem dd_K_failGiver_17 : decode mt_K_failGiver.2.1 17 = .ok (.aload_n 1, 1) := by decide +kernel
theorem dd_K_failGiver_18 : decode mt_K_failGiver.2.1 18 = .ok (.getfield 91, 3) := by decide +kernel
theorem dd_K_failGiver_21 : decode mt_K_failGiver.2.1 21 = .ok (.getfield 95, 3) := by decide +kernel
theorem dd_K_failGiver_24 : decode mt_K_failGiver.2.1 24 = .ok (.ifCond .le 8, 3) := by decide +kernel
theorem dd_K_failGiver_27 : decode mt_K_failGiver.2.1 27 = .ok (.aload_n 3, 1) := by decide +kernel
theorem dd_K_failGiver_28 : decode mt_K_failGiver.2.1 28 = .ok (.iconst 0, 1) := by decide +kernel
theorem dd_K_failGiver_29 : decode mt_K_failGiver.2.1 29 = .ok (.putfield 273, 3) := by decide +kernel
theorem dd_K_failGiver_32 : decode mt_K_failGiver.2.1 32 = .ok (.aload_n 1, 1) := by decide +kernel
theorem dd_K_failGiver_33 : decode mt_K_failGiver.2.1 33 = .ok (.iload_n 2, 1) := by decide +kernel
theorem dd_K_failGiver_34 : decode mt_K_failGiver.2.1 34 = .ok (.invokevirtual 288, 3) := by decide +kernel
theorem dd_K_failGiver_37 : decode mt_K_failGiver.2.1 37 = .ok (.aload_n 3, 1) := by decide +kernel
theorem dd_K_failGiver_38 : decode mt_K_failGiver.2.1 38 = .ok (.ifnull 9, 3) := by decide +kernel
theorem dd_K_failGiver_41 : decode mt_K_failGiver.2.1 41 = .ok (.aload_n 0, 1) := by decide +kernel
theorem dd_K_failGiver_42 : decode mt_K_failGiver.2.1 42 = .ok (.aload_n 3, 1) := by decide +kernel
theorem dd_K_failGiver_43 : decode mt_K_failGiver.2.1 43 = .ok (.iload_n 2, 1) := by decide +kernel
theorem dd_K_failGiver_44 : decode mt_K_failGiver.2.1 44 = .ok (.invokevirtual 210, 3) := by decide +kernel
theorem dd_K_failGiver_47 : decode mt_K_failGiver.2.1 47 = .ok (.return_, 1) := by decide +kernel
theorem dd_K_fail_0 : decode mt_K_fail.2.1 0 = .ok (.aload_n 0, 1) := by decide +kernel
theorem dd_K_fail_1 : decode mt_K_fail.2.1 1 = .ok (.iload_n 1, 1) := by decide +kernel
theorem dd_K_fail_2 : decode mt_K_fail.2.1 2 = .ok (.invokevirtual 75, 3) := by decide +kernel
theorem dd_K_fail_5 : decode mt_K_fail.2.1 5 = .ok (.astore_n 3, 1) := by decide +kernel
theorem dd_K_fail_6 : decode mt_K_fail.2.1 6 = .ok (.aload_n 3, 1) := by decide +kernel
theorem dd_K_fail_7 : decode mt_K_fail.2.1 7 = .ok (.ifnull 17, 3) := by decide +kernel
theorem dd_K_fail_10 : decode mt_K_fail.2.1 10 = .ok (.aload_n 3, 1) := by decide +kernel
theorem dd_K_fail_11 : decode mt_K_fail.2.1 11 = .ok (.getfield 110, 3) := by decide +kernel
theorem dd_K_fail_14 : decode mt_K_fail.2.1 14 = .ok (.ifCond .ne 10, 3) := by decide +kernel
theorem dd_K_fail_17 : decode mt_K_fail.2.1 17 = .ok (.iload_n 2, 1) := by decide +kernel
theorem dd_K_fail_18 : decode mt_K_fail.2.1 18 = .ok (.invokestatic 113, 3) := by decide +kernel
theorem dd_K_fail_21 : decode mt_K_fail.2.1 21 = .ok (.ifCond .ne 5, 3) := by decide +kernel
theorem dd_K_fail_24 : decode mt_K_fail.2.1 24 = .ok (.iconst 0, 1) := by decide +kernel
theorem dd_K_fail_25 : decode mt_K_fail.2.1 25 = .ok (.ireturn, 1) := by decide +kernel
theorem dd_K_fail_26 : decode mt_K_fail.2.1 26 = .ok (.aload_n 0, 1) := by decide +kernel
theorem dd_K_fail_27 : decode mt_K_fail.2.1 27 = .ok (.aload_n 3, 1) := by decide +kernel
theorem dd_K_fail_28 : decode mt_K_fail.2.1 28 = .ok (.iload_n 2, 1) := by decide +kernel
theorem dd_K_fail_29 : decode mt_K_fail.2.1 29 = .ok (.invokevirtual 116, 3) := by decide +kernel
theorem dd_K_fail_32 : decode mt_K_fail.2.1 32 = .ok (.aload_n 0, 1) := by decide +kernel
theorem dd_K_fail_33 : decode mt_K_fail.2.1 33 = .ok (.invokevirtual 57, 3) := by decide +kernel
theorem dd_K_fail_36 : decode mt_K_fail.2.1 36 = .ok (.iconst 1, 1) := by decide +kernel
theorem dd_K_fail_37 : decode mt_K_fail.2.1 37 = .ok (.ireturn, 1) := by decide +kernel
theorem dd_K_isErrorOrNone_0 : decode mt_K_isErrorOrNone.2.1 0 = .ok (.iload_n 0, 1) := by decide +kernel
theorem dd_K_isErrorOrNone_1 : decode mt_K_isErrorOrNone.2.1 1 = .ok (.iconst (-1), 1) := by decide +kernel
theorem dd_K_isErrorOrNone_2 : decode mt_K_isErrorOrNone.2.1 2 = .ok (.if_icmp .eq 10, 3) := by decide +kernel
theorem dd_K_isErrorOrNone_5 : decode mt_K_isErrorOrNone.2.1 5 = .ok (.iload_n 0, 1) := by decide +kernel
theorem dd_K_isErrorOrNone_6 : decode mt_K_isErrorOrNone.2.1 6 = .ok (.invokestatic 113, 3) := by decide +kernel
theorem dd_K_isErrorOrNone_9 : decode mt_K_isErrorOrNone.2.1 9 = .ok (.ifCond .eq 7, 3) := by decide +kernel
theorem dd_K_isErrorOrNone_12 : decode mt_K_isErrorOrNone.2.1 12 = .ok (.iconst 1, 1) := by decide +kernel
theorem dd_K_isErrorOrNone_13 : decode mt_K_isErrorOrNone.2.1 13 = .ok (.goto 4, 3) := by decide +kernel
theorem dd_K_isErrorOrNone_16 : decode mt_K_isErrorOrNone.2.1 16 = .ok (.iconst 0, 1) := by decide +kernel
theorem dd_K_isErrorOrNone_17 : decode mt_K_isErrorOrNone.2.1 17 = .ok (.ireturn, 1) := by decide +kernel
theorem dd_K_pulled_0 : decode mt_K_pulled.2.1 0 = .ok (.aload_n 0, 1) := by decide +kernel
theorem dd_K_pulled_1 : decode mt_K_pulled.2.1 1 = .ok (.iload_n 1, 1) := by decide +kernel
theorem dd_K_pulled_2 : decode mt_K_pulled.2.1 2 = .ok (.invokevirtual 75, 3) := by decide +kernel
theorem dd_K_pulled_5 : decode mt_K_pulled.2.1 5 = .ok (.astore_n 3, 1) := by decide +kernel
theorem dd_K_pulled_6 : decode mt_K_pulled.2.1 6 = .ok (.aload_n 3, 1) := by decide +kernel
theorem dd_K_pulled_7 : decode mt_K_pulled.2.1 7 = .ok (.ifnull 22, 3) := by decide +kernel
theorem dd_K_pulled_10 : decode mt_K_pulled.2.1 10 = .ok (.aload_n 3, 1) := by decide +kernel
theorem dd_K_pulled_11 : decode mt_K_pulled.2.1 11 = .ok (.getfield 119, 3) := by decide +kernel
theorem dd_K_pulled_14 : decode mt_K_pulled.2.1 14 = .ok (.ifCond .eq 15, 3) := by decide +kernel
theorem dd_K_pulled_17 : decode mt_K_pulled.2.1 17 = .ok (.aload_n 0, 1) := by decide +kernel
theorem dd_K_pulled_18 : decode mt_K_pulled.2.1 18 = .ok (.getfield 19, 3) := by decide +kernel
theorem dd_K_pulled_21 : decode mt_K_pulled.2.1 21 = .ok (.iconst 1, 1) := by decide +kernel
theorem dd_K_pulled_22 : decode mt_K_pulled.2.1 22 = .ok (.iload_n 1, 1) := by decide +kernel
theorem dd_K_pulled_23 : decode mt_K_pulled.2.1 23 = .ok (.invokevirtual 122, 3) := by decide +kernel
theorem dd_K_pulled_26 : decode mt_K_pulled.2.1 26 = .ok (.ifCond .eq 5, 3) := by decide +kernel
theorem dd_K_pulled_29 : decode mt_K_pulled.2.1 29 = .ok (.iconst 0, 1) := by decide +kernel
theorem dd_K_pulled_30 : decode mt_K_pulled.2.1 30 = .ok (.ireturn, 1) := by decide +kernel
theorem dd_K_pulled_31 : decode mt_K_pulled.2.1 31 = .ok (.iload_n 2, 1) := by decide +kernel
theorem dd_K_pulled_32 : decode mt_K_pulled.2.1 32 = .ok (.invokestatic 126, 3) := by decide +kernel
theorem dd_K_pulled_35 : decode mt_K_pulled.2.1 35 = .ok (.ifCond .ne 5, 3) := by decide +kernel
theorem dd_K_pulled_38 : decode mt_K_pulled.2.1 38 = .ok (.iconst 0, 1) := by decide +kernel
theorem dd_K_pulled_39 : decode mt_K_pulled.2.1 39 = .ok (.ireturn, 1) := by decide +kernel
theorem dd_K_pulled_40 : decode mt_K_pulled.2.1 40 = .ok (.aload_n 0, 1) := by decide +kernel
theorem dd_K_pulled_41 : decode mt_K_pulled.2.1 41 = .ok (.getfield 19, 3) := by decide +kernel
theorem dd_K_pulled_44 : decode mt_K_pulled.2.1 44 = .ok (.iconst 1, 1) := by decide +kernel
theorem dd_K_pulled_45 : decode mt_K_pulled.2.1 45 = .ok (.iload_n 1, 1) := by decide +kernel
theorem dd_K_pulled_46 : decode mt_K_pulled.2.1 46 = .ok (.iload_n 2, 1) := by decide +kernel
theorem dd_K_pulled_47 : decode mt_K_pulled.2.1 47 = .ok (.invokevirtual 129, 3) := by decide +kernel
theorem dd_K_pulled_50 : decode mt_K_pulled.2.1 50 = .ok (.aload_n 0, 1) := by decide +kernel
theorem dd_K_pulled_51 : decode mt_K_pulled.2.1 51 = .ok (.invokevirtual 57, 3) := by decide +kernel
theorem dd_K_pulled_54 : decode mt_K_pulled.2.1 54 = .ok (.iconst 1, 1) := by decide +kernel
theorem dd_K_pulled_55 : decode mt_K_pulled.2.1 55 = .ok (.ireturn, 1) := by decide +kernel
theorem dd_K_request_0 : decode mt_K_request.2.1 0 = .ok (.aload_n 1, 1) := by decide +kernel
theorem dd_K_request_1 : decode mt_K_request.2.1 1 = .ok (.getfield 83, 3) := by decide +kernel
theorem dd_K_request_4 : decode mt_K_request.2.1 4 = .ok (.invokevirtual 87, 3) := by decide +kernel
theorem dd_K_request_7 : decode mt_K_request.2.1 7 = .ok (.ifCond .le 28, 3) := by decide +kernel
theorem dd_K_request_10 : decode mt_K_request.2.1 10 = .ok (.aload_n 1, 1) := by decide +kernel
theorem dd_K_request_11 : decode mt_K_request.2.1 11 = .ok (.getfield 83, 3) := by decide +kernel
theorem dd_K_request_14 : decode mt_K_request.2.1 14 = .ok (.invokevirtual 262, 3) := by decide +kernel
theorem dd_K_request_17 : decode mt_K_request.2.1 17 = .ok (.istore_n 3, 1) := by decide +kernel
theorem dd_K_request_18 : decode mt_K_request.2.1 18 = .ok (.aload_n 1, 1) := by decide +kernel
theorem dd_K_request_19 : decode mt_K_request.2.1 19 = .ok (.invokevirtual 263, 3) := by decide +kernel
theorem dd_K_request_22 : decode mt_K_request.2.1 22 = .ok (.aload_n 0, 1) := by decide +kernel
theorem dd_K_request_23 : decode mt_K_request.2.1 23 = .ok (.aload_n 1, 1) := by decide +kernel
theorem dd_K_request_24 : decode mt_K_request.2.1 24 = .ok (.invokevirtual 53, 3) := by decide +kernel
theorem dd_K_request_27 : decode mt_K_request.2.1 27 = .ok (.aload_n 0, 1) := by decide +kernel
theorem dd_K_request_28 : decode mt_K_request.2.1 28 = .ok (.aload_n 1, 1) := by decide +kernel
theorem dd_K_request_29 : decode mt_K_request.2.1 29 = .ok (.iload_n 2, 1) := by decide +kernel
theorem dd_K_request_30 : decode mt_K_request.2.1 30 = .ok (.iload_n 3, 1) := by decide +kernel
theorem dd_K_request_31 : decode mt_K_request.2.1 31 = .ok (.invokevirtual 248, 3) := by decide +kernel
theorem dd_K_request_34 : decode mt_K_request.2.1 34 = .ok (.return_, 1) := by decide +kernel
theorem dd_K_request_35 : decode mt_K_request.2.1 35 = .ok (.aload_n 1, 1) := by decide +kernel
theorem dd_K_request_36 : decode mt_K_request.2.1 36 = .ok (.getfield 91, 3) := by decide +kernel
theorem dd_K_request_39 : decode mt_K_request.2.1 39 = .ok (.iload_n 2, 1) := by decide +kernel
theorem dd_K_request_40 : decode mt_K_request.2.1 40 = .ok (.invokevirtual 266, 3) := by decide +kernel
theorem dd_K_request_43 : decode mt_K_request.2.1 43 = .ok (.aload_n 1, 1) := by decide +kernel
theorem dd_K_request_44 : decode mt_K_request.2.1 44 = .ok (.getfield 110, 3) := by decide +kernel
theorem dd_K_request_47 : decode mt_K_request.2.1 47 = .ok (.ifCond .ne 11, 3) := by decide +kernel
theorem dd_K_request_50 : decode mt_K_request.2.1 50 = .ok (.aload_n 0, 1) := by decide +kernel
theorem dd_K_request_51 : decode mt_K_request.2.1 51 = .ok (.aload_n 1, 1) := by decide +kernel
theorem dd_K_request_52 : decode mt_K_request.2.1 52 = .ok (.invokevirtual 53, 3) := by decide +kernel
theorem dd_K_request_55 : decode mt_K_request.2.1 55 = .ok (.goto 7, 3) := by decide +kernel
theorem dd_K_request_58 : decode mt_K_request.2.1 58 = .ok (.aload_n 1, 1) := by decide +kernel
theorem dd_K_request_59 : decode mt_K_request.2.1 59 = .ok (.invokevirtual 267, 3) := by decide +kernel
theorem dd_K_request_62 : decode mt_K_request.2.1 62 = .ok (.return_, 1) := by decide +kernel
