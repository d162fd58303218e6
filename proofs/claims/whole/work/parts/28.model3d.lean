theorem dd_M_wake_0 : decode mt_M_wake.2.1 0 = .ok (.iconst 0, 1) := by decide +kernel
theorem dd_M_wake_1 : decode mt_M_wake.2.1 1 = .ok (.istore_n 1, 1) := by decide +kernel
theorem dd_M_wake_2 : decode mt_M_wake.2.1 2 = .ok (.iload_n 1, 1) := by decide +kernel
theorem dd_M_wake_3 : decode mt_M_wake.2.1 3 = .ok (.aload_n 0, 1) := by decide +kernel
theorem dd_M_wake_4 : decode mt_M_wake.2.1 4 = .ok (.getfield 257, 3) := by decide +kernel
theorem dd_M_wake_7 : decode mt_M_wake.2.1 7 = .ok (.if_icmp .ge 42, 3) := by decide +kernel
theorem dd_M_wake_10 : decode mt_M_wake.2.1 10 = .ok (.aload_n 0, 1) := by decide +kernel
theorem dd_M_wake_11 : decode mt_M_wake.2.1 11 = .ok (.getfield 122, 3) := by decide +kernel
theorem dd_M_wake_14 : decode mt_M_wake.2.1 14 = .ok (.iload_n 1, 1) := by decide +kernel
theorem dd_M_wake_15 : decode mt_M_wake.2.1 15 = .ok (.baload, 1) := by decide +kernel
theorem dd_M_wake_16 : decode mt_M_wake.2.1 16 = .ok (.ifCond .ne 27, 3) := by decide +kernel
theorem dd_M_wake_19 : decode mt_M_wake.2.1 19 = .ok (.aload_n 0, 1) := by decide +kernel
theorem dd_M_wake_20 : decode mt_M_wake.2.1 20 = .ok (.getfield 125, 3) := by decide +kernel
theorem dd_M_wake_23 : decode mt_M_wake.2.1 23 = .ok (.iload_n 1, 1) := by decide +kernel
theorem dd_M_wake_24 : decode mt_M_wake.2.1 24 = .ok (.baload, 1) := by decide +kernel
theorem dd_M_wake_25 : decode mt_M_wake.2.1 25 = .ok (.ifCond .ne 18, 3) := by decide +kernel
theorem dd_M_wake_28 : decode mt_M_wake.2.1 28 = .ok (.aload_n 0, 1) := by decide +kernel
theorem dd_M_wake_29 : decode mt_M_wake.2.1 29 = .ok (.getfield 125, 3) := by decide +kernel
theorem dd_M_wake_32 : decode mt_M_wake.2.1 32 = .ok (.iload_n 1, 1) := by decide +kernel
theorem dd_M_wake_33 : decode mt_M_wake.2.1 33 = .ok (.iconst 1, 1) := by decide +kernel
theorem dd_M_wake_34 : decode mt_M_wake.2.1 34 = .ok (.bastore, 1) := by decide +kernel
theorem dd_M_wake_35 : decode mt_M_wake.2.1 35 = .ok (.aload_n 0, 1) := by decide +kernel
theorem dd_M_wake_36 : decode mt_M_wake.2.1 36 = .ok (.bipush 6, 2) := by decide +kernel
theorem dd_M_wake_38 : decode mt_M_wake.2.1 38 = .ok (.iload_n 1, 1) := by decide +kernel
theorem dd_M_wake_39 : decode mt_M_wake.2.1 39 = .ok (.iconst 0, 1) := by decide +kernel
theorem dd_M_wake_40 : decode mt_M_wake.2.1 40 = .ok (.invokevirtual 178, 3) := by decide +kernel
theorem dd_M_wake_43 : decode mt_M_wake.2.1 43 = .ok (.iinc 1 1, 3) := by decide +kernel
theorem dd_M_wake_46 : decode mt_M_wake.2.1 46 = .ok (.goto (-44), 3) := by decide +kernel
theorem dd_M_wake_49 : decode mt_M_wake.2.1 49 = .ok (.return_, 1) := by decide +kernel
theorem dd_M_step_0 : decode mt_M_step.2.1 0 = .ok (.aload_n 0, 1) := by decide +kernel
theorem dd_M_step_1 : decode mt_M_step.2.1 1 = .ok (.getfield 153, 3) := by decide +kernel
theorem dd_M_step_4 : decode mt_M_step.2.1 4 = .ok (.ifCond .ne 5, 3) := by decide +kernel
theorem dd_M_step_7 : decode mt_M_step.2.1 7 = .ok (.iconst 0, 1) := by decide +kernel
theorem dd_M_step_8 : decode mt_M_step.2.1 8 = .ok (.ireturn, 1) := by decide +kernel
theorem dd_M_step_9 : decode mt_M_step.2.1 9 = .ok (.aload_n 0, 1) := by decide +kernel
theorem dd_M_step_10 : decode mt_M_step.2.1 10 = .ok (.getfield 128, 3) := by decide +kernel
theorem dd_M_step_13 : decode mt_M_step.2.1 13 = .ok (.aload_n 0, 1) := by decide +kernel
theorem dd_M_step_14 : decode mt_M_step.2.1 14 = .ok (.getfield 150, 3) := by decide +kernel
theorem dd_M_step_17 : decode mt_M_step.2.1 17 = .ok (.iaload, 1) := by decide +kernel
theorem dd_M_step_18 : decode mt_M_step.2.1 18 = .ok (.istore_n 1, 1) := by decide +kernel
theorem dd_M_step_19 : decode mt_M_step.2.1 19 = .ok (.aload_n 0, 1) := by decide +kernel
theorem dd_M_step_20 : decode mt_M_step.2.1 20 = .ok (.getfield 131, 3) := by decide +kernel
theorem dd_M_step_23 : decode mt_M_step.2.1 23 = .ok (.aload_n 0, 1) := by decide +kernel
theorem dd_M_step_24 : decode mt_M_step.2.1 24 = .ok (.getfield 150, 3) := by decide +kernel
theorem dd_M_step_27 : decode mt_M_step.2.1 27 = .ok (.iaload, 1) := by decide +kernel
theorem dd_M_step_28 : decode mt_M_step.2.1 28 = .ok (.istore_n 2, 1) := by decide +kernel
theorem dd_M_step_29 : decode mt_M_step.2.1 29 = .ok (.aload_n 0, 1) := by decide +kernel
theorem dd_M_step_30 : decode mt_M_step.2.1 30 = .ok (.getfield 134, 3) := by decide +kernel
theorem dd_M_step_33 : decode mt_M_step.2.1 33 = .ok (.aload_n 0, 1) := by decide +kernel
theorem dd_M_step_34 : decode mt_M_step.2.1 34 = .ok (.getfield 150, 3) := by decide +kernel
theorem dd_M_step_37 : decode mt_M_step.2.1 37 = .ok (.iaload, 1) := by decide +kernel
theorem dd_M_step_38 : decode mt_M_step.2.1 38 = .ok (.istore_n 3, 1) := by decide +kernel
theorem dd_M_step_39 : decode mt_M_step.2.1 39 = .ok (.aload_n 0, 1) := by decide +kernel
theorem dd_M_step_40 : decode mt_M_step.2.1 40 = .ok (.aload_n 0, 1) := by decide +kernel
theorem dd_M_step_41 : decode mt_M_step.2.1 41 = .ok (.getfield 150, 3) := by decide +kernel
theorem dd_M_step_44 : decode mt_M_step.2.1 44 = .ok (.iconst 1, 1) := by decide +kernel
theorem dd_M_step_45 : decode mt_M_step.2.1 45 = .ok (.iadd, 1) := by decide +kernel
theorem dd_M_step_46 : decode mt_M_step.2.1 46 = .ok (.bipush 64, 2) := by decide +kernel
theorem dd_M_step_48 : decode mt_M_step.2.1 48 = .ok (.irem, 1) := by decide +kernel
theorem dd_M_step_49 : decode mt_M_step.2.1 49 = .ok (.putfield 150, 3) := by decide +kernel
theorem dd_M_step_52 : decode mt_M_step.2.1 52 = .ok (.aload_n 0, 1) := by decide +kernel
theorem dd_M_step_53 : decode mt_M_step.2.1 53 = .ok (.dup, 1) := by decide +kernel
theorem dd_M_step_54 : decode mt_M_step.2.1 54 = .ok (.getfield 153, 3) := by decide +kernel
theorem dd_M_step_57 : decode mt_M_step.2.1 57 = .ok (.iconst 1, 1) := by decide +kernel
theorem dd_M_step_58 : decode mt_M_step.2.1 58 = .ok (.isub, 1) := by decide +kernel
theorem dd_M_step_59 : decode mt_M_step.2.1 59 = .ok (.putfield 153, 3) := by decide +kernel
theorem dd_M_step_62 : decode mt_M_step.2.1 62 = .ok (.iconst 1, 1) := by decide +kernel
theorem dd_M_step_63 : decode mt_M_step.2.1 63 = .ok (.istore 4, 2) := by decide +kernel
theorem dd_M_step_65 : decode mt_M_step.2.1 65 = .ok (.iload_n 1, 1) := by decide +kernel
theorem dd_M_step_66 : decode mt_M_step.2.1 66 = .ok (.iconst 1, 1) := by decide +kernel
theorem dd_M_step_67 : decode mt_M_step.2.1 67 = .ok (.if_icmp .ne 12, 3) := by decide +kernel
theorem dd_M_step_70 : decode mt_M_step.2.1 70 = .ok (.aload_n 0, 1) := by decide +kernel
theorem dd_M_step_71 : decode mt_M_step.2.1 71 = .ok (.iload_n 2, 1) := by decide +kernel
theorem dd_M_step_72 : decode mt_M_step.2.1 72 = .ok (.iload_n 3, 1) := by decide +kernel
theorem dd_M_step_73 : decode mt_M_step.2.1 73 = .ok (.invokevirtual 260, 3) := by decide +kernel
theorem dd_M_step_76 : decode mt_M_step.2.1 76 = .ok (.goto 81, 3) := by decide +kernel
theorem dd_M_step_79 : decode mt_M_step.2.1 79 = .ok (.iload_n 1, 1) := by decide +kernel
theorem dd_M_step_80 : decode mt_M_step.2.1 80 = .ok (.iconst 2, 1) := by decide +kernel
theorem dd_M_step_81 : decode mt_M_step.2.1 81 = .ok (.if_icmp .ne 12, 3) := by decide +kernel
theorem dd_M_step_84 : decode mt_M_step.2.1 84 = .ok (.aload_n 0, 1) := by decide +kernel
theorem dd_M_step_85 : decode mt_M_step.2.1 85 = .ok (.iload_n 2, 1) := by decide +kernel
theorem dd_M_step_86 : decode mt_M_step.2.1 86 = .ok (.iload_n 3, 1) := by decide +kernel
theorem dd_M_step_87 : decode mt_M_step.2.1 87 = .ok (.invokevirtual 263, 3) := by decide +kernel
theorem dd_M_step_90 : decode mt_M_step.2.1 90 = .ok (.goto 67, 3) := by decide +kernel
theorem dd_M_step_93 : decode mt_M_step.2.1 93 = .ok (.iload_n 1, 1) := by decide +kernel
theorem dd_M_step_94 : decode mt_M_step.2.1 94 = .ok (.bipush 6, 2) := by decide +kernel
theorem dd_M_step_96 : decode mt_M_step.2.1 96 = .ok (.if_icmp .ne 20, 3) := by decide +kernel
theorem dd_M_step_99 : decode mt_M_step.2.1 99 = .ok (.aload_n 0, 1) := by decide +kernel
theorem dd_M_step_100 : decode mt_M_step.2.1 100 = .ok (.getfield 125, 3) := by decide +kernel
theorem dd_M_step_103 : decode mt_M_step.2.1 103 = .ok (.iload_n 2, 1) := by decide +kernel
theorem dd_M_step_104 : decode mt_M_step.2.1 104 = .ok (.iconst 0, 1) := by decide +kernel
theorem dd_M_step_105 : decode mt_M_step.2.1 105 = .ok (.bastore, 1) := by decide +kernel
theorem dd_M_step_106 : decode mt_M_step.2.1 106 = .ok (.aload_n 0, 1) := by decide +kernel
theorem dd_M_step_107 : decode mt_M_step.2.1 107 = .ok (.iload_n 2, 1) := by decide +kernel
theorem dd_M_step_108 : decode mt_M_step.2.1 108 = .ok (.invokevirtual 266, 3) := by decide +kernel
theorem dd_M_step_111 : decode mt_M_step.2.1 111 = .ok (.istore 4, 2) := by decide +kernel
theorem dd_M_step_113 : decode mt_M_step.2.1 113 = .ok (.goto 44, 3) := by decide +kernel
theorem dd_M_step_116 : decode mt_M_step.2.1 116 = .ok (.aload_n 0, 1) := by decide +kernel
theorem dd_M_step_117 : decode mt_M_step.2.1 117 = .ok (.getfield 110, 3) := by decide +kernel
theorem dd_M_step_120 : decode mt_M_step.2.1 120 = .ok (.iload_n 2, 1) := by decide +kernel
theorem dd_M_step_121 : decode mt_M_step.2.1 121 = .ok (.iconst 0, 1) := by decide +kernel
theorem dd_M_step_122 : decode mt_M_step.2.1 122 = .ok (.bastore, 1) := by decide +kernel
theorem dd_M_step_123 : decode mt_M_step.2.1 123 = .ok (.iload_n 1, 1) := by decide +kernel
theorem dd_M_step_124 : decode mt_M_step.2.1 124 = .ok (.iconst 3, 1) := by decide +kernel
theorem dd_M_step_125 : decode mt_M_step.2.1 125 = .ok (.if_icmp .ne 12, 3) := by decide +kernel
theorem dd_M_step_128 : decode mt_M_step.2.1 128 = .ok (.aload_n 0, 1) := by decide +kernel
theorem dd_M_step_129 : decode mt_M_step.2.1 129 = .ok (.iload_n 2, 1) := by decide +kernel
theorem dd_M_step_130 : decode mt_M_step.2.1 130 = .ok (.iload_n 3, 1) := by decide +kernel
theorem dd_M_step_131 : decode mt_M_step.2.1 131 = .ok (.invokevirtual 269, 3) := by decide +kernel
theorem dd_M_step_134 : decode mt_M_step.2.1 134 = .ok (.goto 23, 3) := by decide +kernel
theorem dd_M_step_137 : decode mt_M_step.2.1 137 = .ok (.iload_n 1, 1) := by decide +kernel
theorem dd_M_step_138 : decode mt_M_step.2.1 138 = .ok (.iconst 4, 1) := by decide +kernel
theorem dd_M_step_139 : decode mt_M_step.2.1 139 = .ok (.if_icmp .ne 12, 3) := by decide +kernel
theorem dd_M_step_142 : decode mt_M_step.2.1 142 = .ok (.aload_n 0, 1) := by decide +kernel
theorem dd_M_step_143 : decode mt_M_step.2.1 143 = .ok (.iload_n 2, 1) := by decide +kernel
theorem dd_M_step_144 : decode mt_M_step.2.1 144 = .ok (.iload_n 3, 1) := by decide +kernel
theorem dd_M_step_145 : decode mt_M_step.2.1 145 = .ok (.invokevirtual 272, 3) := by decide +kernel
theorem dd_M_step_148 : decode mt_M_step.2.1 148 = .ok (.goto 9, 3) := by decide +kernel
theorem dd_M_step_151 : decode mt_M_step.2.1 151 = .ok (.aload_n 0, 1) := by decide +kernel
theorem dd_M_step_152 : decode mt_M_step.2.1 152 = .ok (.iload_n 2, 1) := by decide +kernel
theorem dd_M_step_153 : decode mt_M_step.2.1 153 = .ok (.iload_n 3, 1) := by decide +kernel
theorem dd_M_step_154 : decode mt_M_step.2.1 154 = .ok (.invokevirtual 275, 3) := by decide +kernel
theorem dd_M_step_157 : decode mt_M_step.2.1 157 = .ok (.iload 4, 2) := by decide +kernel
theorem dd_M_step_159 : decode mt_M_step.2.1 159 = .ok (.ifCond .eq 7, 3) := by decide +kernel
theorem dd_M_step_162 : decode mt_M_step.2.1 162 = .ok (.aload_n 0, 1) := by decide +kernel
theorem dd_M_step_163 : decode mt_M_step.2.1 163 = .ok (.invokevirtual 278, 3) := by decide +kernel
theorem dd_M_step_166 : decode mt_M_step.2.1 166 = .ok (.iload_n 1, 1) := by decide +kernel
theorem dd_M_step_167 : decode mt_M_step.2.1 167 = .ok (.ireturn, 1) := by decide +kernel
theorem dd_M_run_0 : decode mt_M_run.2.1 0 = .ok (.iconst 0, 1) := by decide +kernel
theorem dd_M_run_1 : decode mt_M_run.2.1 1 = .ok (.istore_n 1, 1) := by decide +kernel
theorem dd_M_run_2 : decode mt_M_run.2.1 2 = .ok (.iload_n 1, 1) := by decide +kernel
theorem dd_M_run_3 : decode mt_M_run.2.1 3 = .ok (.sipush 200, 3) := by decide +kernel
theorem dd_M_run_6 : decode mt_M_run.2.1 6 = .ok (.if_icmp .ge 21, 3) := by decide +kernel
theorem dd_M_run_9 : decode mt_M_run.2.1 9 = .ok (.aload_n 0, 1) := by decide +kernel
theorem dd_M_run_10 : decode mt_M_run.2.1 10 = .ok (.getfield 153, 3) := by decide +kernel
theorem dd_M_run_13 : decode mt_M_run.2.1 13 = .ok (.ifCond .le 14, 3) := by decide +kernel
theorem dd_M_run_16 : decode mt_M_run.2.1 16 = .ok (.aload_n 0, 1) := by decide +kernel
theorem dd_M_run_17 : decode mt_M_run.2.1 17 = .ok (.invokevirtual 281, 3) := by decide +kernel
theorem dd_M_run_20 : decode mt_M_run.2.1 20 = .ok (.istore_n 2, 1) := by decide +kernel
theorem dd_M_run_21 : decode mt_M_run.2.1 21 = .ok (.iinc 1 1, 3) := by decide +kernel
theorem dd_M_run_24 : decode mt_M_run.2.1 24 = .ok (.goto (-22), 3) := by decide +kernel
theorem dd_M_run_27 : decode mt_M_run.2.1 27 = .ok (.iload_n 1, 1) := by decide +kernel
theorem dd_M_run_28 : decode mt_M_run.2.1 28 = .ok (.ireturn, 1) := by decide +kernel
theorem dd_M_jobs_0 : decode mt_M_jobs.2.1 0 = .ok (.aload_n 0, 1) := by decide +kernel
theorem dd_M_jobs_1 : decode mt_M_jobs.2.1 1 = .ok (.getfield 153, 3) := by decide +kernel
theorem dd_M_jobs_4 : decode mt_M_jobs.2.1 4 = .ok (.ireturn, 1) := by decide +kernel
theorem dd_M_noGiver_0 : decode mt_M_noGiver.2.1 0 = .ok (.iload_n 1, 1) := by decide +kernel
theorem dd_M_noGiver_1 : decode mt_M_noGiver.2.1 1 = .ok (.ifCond .lt 11, 3) := by decide +kernel
theorem dd_M_noGiver_4 : decode mt_M_noGiver.2.1 4 = .ok (.iload_n 1, 1) := by decide +kernel
theorem dd_M_noGiver_5 : decode mt_M_noGiver.2.1 5 = .ok (.aload_n 0, 1) := by decide +kernel
theorem dd_M_noGiver_6 : decode mt_M_noGiver.2.1 6 = .ok (.getfield 285, 3) := by decide +kernel
theorem dd_M_noGiver_9 : decode mt_M_noGiver.2.1 9 = .ok (.if_icmp .lt 7, 3) := by decide +kernel
theorem dd_M_noGiver_12 : decode mt_M_noGiver.2.1 12 = .ok (.iconst 1, 1) := by decide +kernel
theorem dd_M_noGiver_13 : decode mt_M_noGiver.2.1 13 = .ok (.goto 4, 3) := by decide +kernel
theorem dd_M_noGiver_16 : decode mt_M_noGiver.2.1 16 = .ok (.iconst 0, 1) := by decide +kernel
theorem dd_M_noGiver_17 : decode mt_M_noGiver.2.1 17 = .ok (.ireturn, 1) := by decide +kernel
theorem dd_M_noTaker_0 : decode mt_M_noTaker.2.1 0 = .ok (.iload_n 1, 1) := by decide +kernel
theorem dd_M_noTaker_1 : decode mt_M_noTaker.2.1 1 = .ok (.ifCond .lt 11, 3) := by decide +kernel
theorem dd_M_noTaker_4 : decode mt_M_noTaker.2.1 4 = .ok (.iload_n 1, 1) := by decide +kernel
theorem dd_M_noTaker_5 : decode mt_M_noTaker.2.1 5 = .ok (.aload_n 0, 1) := by decide +kernel
theorem dd_M_noTaker_6 : decode mt_M_noTaker.2.1 6 = .ok (.getfield 288, 3) := by decide +kernel
theorem dd_M_noTaker_9 : decode mt_M_noTaker.2.1 9 = .ok (.if_icmp .lt 7, 3) := by decide +kernel
theorem dd_M_noTaker_12 : decode mt_M_noTaker.2.1 12 = .ok (.iconst 1, 1) := by decide +kernel
theorem dd_M_noTaker_13 : decode mt_M_noTaker.2.1 13 = .ok (.goto 4, 3) := by decide +kernel
theorem dd_M_noTaker_16 : decode mt_M_noTaker.2.1 16 = .ok (.iconst 0, 1) := by decide +kernel
theorem dd_M_noTaker_17 : decode mt_M_noTaker.2.1 17 = .ok (.ireturn, 1) := by decide +kernel
theorem dd_M_badError_0 : decode mt_M_badError.2.1 0 = .ok (.iload_n 1, 1) := by decide +kernel
theorem dd_M_badError_1 : decode mt_M_badError.2.1 1 = .ok (.iload_n 2, 1) := by decide +kernel
theorem dd_M_badError_2 : decode mt_M_badError.2.1 2 = .ok (.if_icmp .lt 9, 3) := by decide +kernel
theorem dd_M_badError_5 : decode mt_M_badError.2.1 5 = .ok (.iload_n 1, 1) := by decide +kernel
theorem dd_M_badError_6 : decode mt_M_badError.2.1 6 = .ok (.bipush 99, 2) := by decide +kernel
theorem dd_M_badError_8 : decode mt_M_badError.2.1 8 = .ok (.if_icmp .le 7, 3) := by decide +kernel
theorem dd_M_badError_11 : decode mt_M_badError.2.1 11 = .ok (.iconst 1, 1) := by decide +kernel
theorem dd_M_badError_12 : decode mt_M_badError.2.1 12 = .ok (.goto 4, 3) := by decide +kernel
theorem dd_M_badError_15 : decode mt_M_badError.2.1 15 = .ok (.iconst 0, 1) := by decide +kernel
theorem dd_M_badError_16 : decode mt_M_badError.2.1 16 = .ok (.ireturn, 1) := by decide +kernel
theorem dd_M_addGiver_0 : decode mt_M_addGiver.2.1 0 = .ok (.aload_n 0, 1) := by decide +kernel
theorem dd_M_addGiver_1 : decode mt_M_addGiver.2.1 1 = .ok (.getfield 285, 3) := by decide +kernel
theorem dd_M_addGiver_4 : decode mt_M_addGiver.2.1 4 = .ok (.istore 4, 2) := by decide +kernel
theorem dd_M_addGiver_6 : decode mt_M_addGiver.2.1 6 = .ok (.aload_n 0, 1) := by decide +kernel
theorem dd_M_addGiver_7 : decode mt_M_addGiver.2.1 7 = .ok (.dup, 1) := by decide +kernel
theorem dd_M_addGiver_8 : decode mt_M_addGiver.2.1 8 = .ok (.getfield 285, 3) := by decide +kernel
theorem dd_M_addGiver_11 : decode mt_M_addGiver.2.1 11 = .ok (.iconst 1, 1) := by decide +kernel
theorem dd_M_addGiver_12 : decode mt_M_addGiver.2.1 12 = .ok (.iadd, 1) := by decide +kernel
theorem dd_M_addGiver_13 : decode mt_M_addGiver.2.1 13 = .ok (.putfield 285, 3) := by decide +kernel
theorem dd_M_addGiver_16 : decode mt_M_addGiver.2.1 16 = .ok (.aload_n 0, 1) := by decide +kernel
theorem dd_M_addGiver_17 : decode mt_M_addGiver.2.1 17 = .ok (.getfield 16, 3) := by decide +kernel
theorem dd_M_addGiver_20 : decode mt_M_addGiver.2.1 20 = .ok (.iload 4, 2) := by decide +kernel
theorem dd_M_addGiver_22 : decode mt_M_addGiver.2.1 22 = .ok (.iload_n 1, 1) := by decide +kernel
theorem dd_M_addGiver_23 : decode mt_M_addGiver.2.1 23 = .ok (.iastore, 1) := by decide +kernel
theorem dd_M_addGiver_24 : decode mt_M_addGiver.2.1 24 = .ok (.aload_n 0, 1) := by decide +kernel
theorem dd_M_addGiver_25 : decode mt_M_addGiver.2.1 25 = .ok (.getfield 19, 3) := by decide +kernel
theorem dd_M_addGiver_28 : decode mt_M_addGiver.2.1 28 = .ok (.iload 4, 2) := by decide +kernel
theorem dd_M_addGiver_30 : decode mt_M_addGiver.2.1 30 = .ok (.iload_n 2, 1) := by decide +kernel
theorem dd_M_addGiver_31 : decode mt_M_addGiver.2.1 31 = .ok (.bastore, 1) := by decide +kernel
theorem dd_M_addGiver_32 : decode mt_M_addGiver.2.1 32 = .ok (.aload_n 0, 1) := by decide +kernel
theorem dd_M_addGiver_33 : decode mt_M_addGiver.2.1 33 = .ok (.getfield 53, 3) := by decide +kernel
theorem dd_M_addGiver_36 : decode mt_M_addGiver.2.1 36 = .ok (.iload 4, 2) := by decide +kernel
theorem dd_M_addGiver_38 : decode mt_M_addGiver.2.1 38 = .ok (.iconst (-1), 1) := by decide +kernel
theorem dd_M_addGiver_39 : decode mt_M_addGiver.2.1 39 = .ok (.iastore, 1) := by decide +kernel
theorem dd_M_addGiver_40 : decode mt_M_addGiver.2.1 40 = .ok (.aload_n 0, 1) := by decide +kernel
theorem dd_M_addGiver_41 : decode mt_M_addGiver.2.1 41 = .ok (.getfield 56, 3) := by decide +kernel
theorem dd_M_addGiver_44 : decode mt_M_addGiver.2.1 44 = .ok (.iload 4, 2) := by decide +kernel
theorem dd_M_addGiver_46 : decode mt_M_addGiver.2.1 46 = .ok (.iload_n 3, 1) := by decide +kernel
theorem dd_M_addGiver_47 : decode mt_M_addGiver.2.1 47 = .ok (.iastore, 1) := by decide +kernel
theorem dd_M_addGiver_48 : decode mt_M_addGiver.2.1 48 = .ok (.iload 4, 2) := by decide +kernel
theorem dd_M_addGiver_50 : decode mt_M_addGiver.2.1 50 = .ok (.ireturn, 1) := by decide +kernel
theorem dd_M_giver_0 : decode mt_M_giver.2.1 0 = .ok (.iload_n 1, 1) := by decide +kernel
theorem dd_M_giver_1 : decode mt_M_giver.2.1 1 = .ok (.ifCond .lt 9, 3) := by decide +kernel
theorem dd_M_giver_4 : decode mt_M_giver.2.1 4 = .ok (.iload_n 1, 1) := by decide +kernel
theorem dd_M_giver_5 : decode mt_M_giver.2.1 5 = .ok (.bipush 20, 2) := by decide +kernel
theorem dd_M_giver_7 : decode mt_M_giver.2.1 7 = .ok (.if_icmp .le 5, 3) := by decide +kernel
theorem dd_M_giver_10 : decode mt_M_giver.2.1 10 = .ok (.iconst (-1), 1) := by decide +kernel
theorem dd_M_giver_11 : decode mt_M_giver.2.1 11 = .ok (.ireturn, 1) := by decide +kernel
theorem dd_M_giver_12 : decode mt_M_giver.2.1 12 = .ok (.aload_n 0, 1) := by decide +kernel
theorem dd_M_giver_13 : decode mt_M_giver.2.1 13 = .ok (.getfield 285, 3) := by decide +kernel
theorem dd_M_giver_16 : decode mt_M_giver.2.1 16 = .ok (.bipush 6, 2) := by decide +kernel
theorem dd_M_giver_18 : decode mt_M_giver.2.1 18 = .ok (.if_icmp .ne 6, 3) := by decide +kernel
theorem dd_M_giver_21 : decode mt_M_giver.2.1 21 = .ok (.bipush (-2), 2) := by decide +kernel
theorem dd_M_giver_23 : decode mt_M_giver.2.1 23 = .ok (.ireturn, 1) := by decide +kernel
theorem dd_M_giver_24 : decode mt_M_giver.2.1 24 = .ok (.aload_n 0, 1) := by decide +kernel
theorem dd_M_giver_25 : decode mt_M_giver.2.1 25 = .ok (.iload_n 1, 1) := by decide +kernel
theorem dd_M_giver_26 : decode mt_M_giver.2.1 26 = .ok (.iload_n 2, 1) := by decide +kernel
theorem dd_M_giver_27 : decode mt_M_giver.2.1 27 = .ok (.iconst (-1), 1) := by decide +kernel
theorem dd_M_giver_28 : decode mt_M_giver.2.1 28 = .ok (.invokevirtual 291, 3) := by decide +kernel
theorem dd_M_giver_31 : decode mt_M_giver.2.1 31 = .ok (.istore_n 3, 1) := by decide +kernel
theorem dd_M_giver_32 : decode mt_M_giver.2.1 32 = .ok (.aload_n 0, 1) := by decide +kernel
theorem dd_M_giver_33 : decode mt_M_giver.2.1 33 = .ok (.iload_n 3, 1) := by decide +kernel
theorem dd_M_giver_34 : decode mt_M_giver.2.1 34 = .ok (.invokevirtual 224, 3) := by decide +kernel
theorem dd_M_giver_37 : decode mt_M_giver.2.1 37 = .ok (.aload_n 0, 1) := by decide +kernel
theorem dd_M_giver_38 : decode mt_M_giver.2.1 38 = .ok (.invokevirtual 278, 3) := by decide +kernel
theorem dd_M_giver_41 : decode mt_M_giver.2.1 41 = .ok (.iload_n 3, 1) := by decide +kernel
theorem dd_M_giver_42 : decode mt_M_giver.2.1 42 = .ok (.ireturn, 1) := by decide +kernel
theorem dd_M_taker_0 : decode mt_M_taker.2.1 0 = .ok (.iload_n 1, 1) := by decide +kernel
theorem dd_M_taker_1 : decode mt_M_taker.2.1 1 = .ok (.ifCond .lt 9, 3) := by decide +kernel
theorem dd_M_taker_4 : decode mt_M_taker.2.1 4 = .ok (.iload_n 1, 1) := by decide +kernel
theorem dd_M_taker_5 : decode mt_M_taker.2.1 5 = .ok (.bipush 20, 2) := by decide +kernel
theorem dd_M_taker_7 : decode mt_M_taker.2.1 7 = .ok (.if_icmp .le 5, 3) := by decide +kernel
theorem dd_M_taker_10 : decode mt_M_taker.2.1 10 = .ok (.iconst (-1), 1) := by decide +kernel
theorem dd_M_taker_11 : decode mt_M_taker.2.1 11 = .ok (.ireturn, 1) := by decide +kernel
theorem dd_M_taker_12 : decode mt_M_taker.2.1 12 = .ok (.aload_n 0, 1) := by decide +kernel
theorem dd_M_taker_13 : decode mt_M_taker.2.1 13 = .ok (.getfield 288, 3) := by decide +kernel
theorem dd_M_taker_16 : decode mt_M_taker.2.1 16 = .ok (.iconst 2, 1) := by decide +kernel
theorem dd_M_taker_17 : decode mt_M_taker.2.1 17 = .ok (.if_icmp .ne 6, 3) := by decide +kernel
theorem dd_M_taker_20 : decode mt_M_taker.2.1 20 = .ok (.bipush (-2), 2) := by decide +kernel
theorem dd_M_taker_22 : decode mt_M_taker.2.1 22 = .ok (.ireturn, 1) := by decide +kernel
theorem dd_M_taker_23 : decode mt_M_taker.2.1 23 = .ok (.aload_n 0, 1) := by decide +kernel
theorem dd_M_taker_24 : decode mt_M_taker.2.1 24 = .ok (.getfield 74, 3) := by decide +kernel
theorem dd_M_taker_27 : decode mt_M_taker.2.1 27 = .ok (.aload_n 0, 1) := by decide +kernel
theorem dd_M_taker_28 : decode mt_M_taker.2.1 28 = .ok (.getfield 288, 3) := by decide +kernel
theorem dd_M_taker_31 : decode mt_M_taker.2.1 31 = .ok (.iload_n 1, 1) := by decide +kernel
theorem dd_M_taker_32 : decode mt_M_taker.2.1 32 = .ok (.iastore, 1) := by decide +kernel
theorem dd_M_taker_33 : decode mt_M_taker.2.1 33 = .ok (.aload_n 0, 1) := by decide +kernel
theorem dd_M_taker_34 : decode mt_M_taker.2.1 34 = .ok (.getfield 77, 3) := by decide +kernel
theorem dd_M_taker_37 : decode mt_M_taker.2.1 37 = .ok (.aload_n 0, 1) := by decide +kernel
theorem dd_M_taker_38 : decode mt_M_taker.2.1 38 = .ok (.getfield 288, 3) := by decide +kernel
theorem dd_M_taker_41 : decode mt_M_taker.2.1 41 = .ok (.iload_n 2, 1) := by decide +kernel
theorem dd_M_taker_42 : decode mt_M_taker.2.1 42 = .ok (.bastore, 1) := by decide +kernel
theorem dd_M_taker_43 : decode mt_M_taker.2.1 43 = .ok (.aload_n 0, 1) := by decide +kernel
theorem dd_M_taker_44 : decode mt_M_taker.2.1 44 = .ok (.dup, 1) := by decide +kernel
theorem dd_M_taker_45 : decode mt_M_taker.2.1 45 = .ok (.getfield 288, 3) := by decide +kernel
theorem dd_M_taker_48 : decode mt_M_taker.2.1 48 = .ok (.iconst 1, 1) := by decide +kernel
theorem dd_M_taker_49 : decode mt_M_taker.2.1 49 = .ok (.iadd, 1) := by decide +kernel
theorem dd_M_taker_50 : decode mt_M_taker.2.1 50 = .ok (.putfield 288, 3) := by decide +kernel
theorem dd_M_taker_53 : decode mt_M_taker.2.1 53 = .ok (.aload_n 0, 1) := by decide +kernel
theorem dd_M_taker_54 : decode mt_M_taker.2.1 54 = .ok (.invokevirtual 278, 3) := by decide +kernel
theorem dd_M_taker_57 : decode mt_M_taker.2.1 57 = .ok (.aload_n 0, 1) := by decide +kernel
theorem dd_M_taker_58 : decode mt_M_taker.2.1 58 = .ok (.getfield 288, 3) := by decide +kernel
theorem dd_M_taker_61 : decode mt_M_taker.2.1 61 = .ok (.iconst 1, 1) := by decide +kernel
theorem dd_M_taker_62 : decode mt_M_taker.2.1 62 = .ok (.isub, 1) := by decide +kernel
theorem dd_M_taker_63 : decode mt_M_taker.2.1 63 = .ok (.ireturn, 1) := by decide +kernel
theorem dd_M_noRoot_0 : decode mt_M_noRoot.2.1 0 = .ok (.aload_n 0, 1) := by decide +kernel
theorem dd_M_noRoot_1 : decode mt_M_noRoot.2.1 1 = .ok (.iload_n 1, 1) := by decide +kernel
theorem dd_M_noRoot_2 : decode mt_M_noRoot.2.1 2 = .ok (.invokevirtual 295, 3) := by decide +kernel
theorem dd_M_noRoot_5 : decode mt_M_noRoot.2.1 5 = .ok (.ifCond .ne 20, 3) := by decide +kernel
theorem dd_M_noRoot_8 : decode mt_M_noRoot.2.1 8 = .ok (.aload_n 0, 1) := by decide +kernel
theorem dd_M_noRoot_9 : decode mt_M_noRoot.2.1 9 = .ok (.iload_n 1, 1) := by decide +kernel
theorem dd_M_noRoot_10 : decode mt_M_noRoot.2.1 10 = .ok (.invokevirtual 212, 3) := by decide +kernel
theorem dd_M_noRoot_13 : decode mt_M_noRoot.2.1 13 = .ok (.ifCond .ne 12, 3) := by decide +kernel
theorem dd_M_noRoot_16 : decode mt_M_noRoot.2.1 16 = .ok (.aload_n 0, 1) := by decide +kernel
theorem dd_M_noRoot_17 : decode mt_M_noRoot.2.1 17 = .ok (.getfield 7, 3) := by decide +kernel
theorem dd_M_noRoot_20 : decode mt_M_noRoot.2.1 20 = .ok (.iload_n 1, 1) := by decide +kernel
theorem dd_M_noRoot_21 : decode mt_M_noRoot.2.1 21 = .ok (.iaload, 1) := by decide +kernel
theorem dd_M_noRoot_22 : decode mt_M_noRoot.2.1 22 = .ok (.ifCond .eq 7, 3) := by decide +kernel
theorem dd_M_noRoot_25 : decode mt_M_noRoot.2.1 25 = .ok (.iconst 1, 1) := by decide +kernel
theorem dd_M_noRoot_26 : decode mt_M_noRoot.2.1 26 = .ok (.goto 4, 3) := by decide +kernel
theorem dd_M_noRoot_29 : decode mt_M_noRoot.2.1 29 = .ok (.iconst 0, 1) := by decide +kernel
theorem dd_M_noRoot_30 : decode mt_M_noRoot.2.1 30 = .ok (.ireturn, 1) := by decide +kernel
theorem dd_M_put_0 : decode mt_M_put.2.1 0 = .ok (.aload_n 0, 1) := by decide +kernel
theorem dd_M_put_1 : decode mt_M_put.2.1 1 = .ok (.iload_n 1, 1) := by decide +kernel
theorem dd_M_put_2 : decode mt_M_put.2.1 2 = .ok (.invokevirtual 298, 3) := by decide +kernel
theorem dd_M_put_5 : decode mt_M_put.2.1 5 = .ok (.ifCond .ne 32, 3) := by decide +kernel
theorem dd_M_put_8 : decode mt_M_put.2.1 8 = .ok (.aload_n 0, 1) := by decide +kernel
theorem dd_M_put_9 : decode mt_M_put.2.1 9 = .ok (.getfield 23, 3) := by decide +kernel
theorem dd_M_put_12 : decode mt_M_put.2.1 12 = .ok (.iload_n 1, 1) := by decide +kernel
theorem dd_M_put_13 : decode mt_M_put.2.1 13 = .ok (.baload, 1) := by decide +kernel
theorem dd_M_put_14 : decode mt_M_put.2.1 14 = .ok (.ifCond .ne 23, 3) := by decide +kernel
theorem dd_M_put_17 : decode mt_M_put.2.1 17 = .ok (.aload_n 0, 1) := by decide +kernel
theorem dd_M_put_18 : decode mt_M_put.2.1 18 = .ok (.getfield 38, 3) := by decide +kernel
theorem dd_M_put_21 : decode mt_M_put.2.1 21 = .ok (.iload_n 1, 1) := by decide +kernel
theorem dd_M_put_22 : decode mt_M_put.2.1 22 = .ok (.iaload, 1) := by decide +kernel
theorem dd_M_put_23 : decode mt_M_put.2.1 23 = .ok (.bipush 16, 2) := by decide +kernel
theorem dd_M_put_25 : decode mt_M_put.2.1 25 = .ok (.if_icmp .ne 14, 3) := by decide +kernel
theorem dd_M_put_28 : decode mt_M_put.2.1 28 = .ok (.aload_n 0, 1) := by decide +kernel
theorem dd_M_put_29 : decode mt_M_put.2.1 29 = .ok (.getfield 44, 3) := by decide +kernel
theorem dd_M_put_32 : decode mt_M_put.2.1 32 = .ok (.iload_n 1, 1) := by decide +kernel
theorem dd_M_put_33 : decode mt_M_put.2.1 33 = .ok (.iaload, 1) := by decide +kernel
theorem dd_M_put_34 : decode mt_M_put.2.1 34 = .ok (.ifCond .ne 5, 3) := by decide +kernel
theorem dd_M_put_37 : decode mt_M_put.2.1 37 = .ok (.iconst 0, 1) := by decide +kernel
theorem dd_M_put_38 : decode mt_M_put.2.1 38 = .ok (.ireturn, 1) := by decide +kernel
theorem dd_M_put_39 : decode mt_M_put.2.1 39 = .ok (.aload_n 0, 1) := by decide +kernel
theorem dd_M_put_40 : decode mt_M_put.2.1 40 = .ok (.iload_n 1, 1) := by decide +kernel
theorem dd_M_put_41 : decode mt_M_put.2.1 41 = .ok (.iload_n 2, 1) := by decide +kernel
theorem dd_M_put_42 : decode mt_M_put.2.1 42 = .ok (.invokevirtual 233, 3) := by decide +kernel
theorem dd_M_put_45 : decode mt_M_put.2.1 45 = .ok (.aload_n 0, 1) := by decide +kernel
theorem dd_M_put_46 : decode mt_M_put.2.1 46 = .ok (.invokevirtual 278, 3) := by decide +kernel
theorem dd_M_put_49 : decode mt_M_put.2.1 49 = .ok (.iconst 1, 1) := by decide +kernel
theorem dd_M_put_50 : decode mt_M_put.2.1 50 = .ok (.ireturn, 1) := by decide +kernel
theorem dd_M_end_0 : decode mt_M_end.2.1 0 = .ok (.aload_n 0, 1) := by decide +kernel
theorem dd_M_end_1 : decode mt_M_end.2.1 1 = .ok (.iload_n 1, 1) := by decide +kernel
theorem dd_M_end_2 : decode mt_M_end.2.1 2 = .ok (.invokevirtual 298, 3) := by decide +kernel
theorem dd_M_end_5 : decode mt_M_end.2.1 5 = .ok (.ifCond .ne 12, 3) := by decide +kernel
theorem dd_M_end_8 : decode mt_M_end.2.1 8 = .ok (.aload_n 0, 1) := by decide +kernel
theorem dd_M_end_9 : decode mt_M_end.2.1 9 = .ok (.getfield 23, 3) := by decide +kernel
theorem dd_M_end_12 : decode mt_M_end.2.1 12 = .ok (.iload_n 1, 1) := by decide +kernel
theorem dd_M_end_13 : decode mt_M_end.2.1 13 = .ok (.baload, 1) := by decide +kernel
theorem dd_M_end_14 : decode mt_M_end.2.1 14 = .ok (.ifCond .eq 5, 3) := by decide +kernel
theorem dd_M_end_17 : decode mt_M_end.2.1 17 = .ok (.iconst 0, 1) := by decide +kernel
theorem dd_M_end_18 : decode mt_M_end.2.1 18 = .ok (.ireturn, 1) := by decide +kernel
theorem dd_M_end_19 : decode mt_M_end.2.1 19 = .ok (.aload_n 0, 1) := by decide +kernel
theorem dd_M_end_20 : decode mt_M_end.2.1 20 = .ok (.iload_n 1, 1) := by decide +kernel
theorem dd_M_end_21 : decode mt_M_end.2.1 21 = .ok (.invokevirtual 301, 3) := by decide +kernel
theorem dd_M_end_24 : decode mt_M_end.2.1 24 = .ok (.aload_n 0, 1) := by decide +kernel
theorem dd_M_end_25 : decode mt_M_end.2.1 25 = .ok (.invokevirtual 278, 3) := by decide +kernel
theorem dd_M_end_28 : decode mt_M_end.2.1 28 = .ok (.iconst 1, 1) := by decide +kernel
theorem dd_M_end_29 : decode mt_M_end.2.1 29 = .ok (.ireturn, 1) := by decide +kernel
theorem dd_M_fail_0 : decode mt_M_fail.2.1 0 = .ok (.aload_n 0, 1) := by decide +kernel
theorem dd_M_fail_1 : decode mt_M_fail.2.1 1 = .ok (.iload_n 1, 1) := by decide +kernel
theorem dd_M_fail_2 : decode mt_M_fail.2.1 2 = .ok (.invokevirtual 298, 3) := by decide +kernel
theorem dd_M_fail_5 : decode mt_M_fail.2.1 5 = .ok (.ifCond .ne 12, 3) := by decide +kernel
theorem dd_M_fail_8 : decode mt_M_fail.2.1 8 = .ok (.aload_n 0, 1) := by decide +kernel
theorem dd_M_fail_9 : decode mt_M_fail.2.1 9 = .ok (.iload_n 2, 1) := by decide +kernel
theorem dd_M_fail_10 : decode mt_M_fail.2.1 10 = .ok (.iconst 0, 1) := by decide +kernel
theorem dd_M_fail_11 : decode mt_M_fail.2.1 11 = .ok (.invokevirtual 304, 3) := by decide +kernel
theorem dd_M_fail_14 : decode mt_M_fail.2.1 14 = .ok (.ifCond .eq 5, 3) := by decide +kernel
theorem dd_M_fail_17 : decode mt_M_fail.2.1 17 = .ok (.iconst 0, 1) := by decide +kernel
theorem dd_M_fail_18 : decode mt_M_fail.2.1 18 = .ok (.ireturn, 1) := by decide +kernel
theorem dd_M_fail_19 : decode mt_M_fail.2.1 19 = .ok (.aload_n 0, 1) := by decide +kernel
theorem dd_M_fail_20 : decode mt_M_fail.2.1 20 = .ok (.iload_n 1, 1) := by decide +kernel
theorem dd_M_fail_21 : decode mt_M_fail.2.1 21 = .ok (.iload_n 2, 1) := by decide +kernel
theorem dd_M_fail_22 : decode mt_M_fail.2.1 22 = .ok (.invokevirtual 230, 3) := by decide +kernel
theorem dd_M_fail_25 : decode mt_M_fail.2.1 25 = .ok (.aload_n 0, 1) := by decide +kernel
theorem dd_M_fail_26 : decode mt_M_fail.2.1 26 = .ok (.invokevirtual 278, 3) := by decide +kernel
theorem dd_M_fail_29 : decode mt_M_fail.2.1 29 = .ok (.iconst 1, 1) := by decide +kernel
theorem dd_M_fail_30 : decode mt_M_fail.2.1 30 = .ok (.ireturn, 1) := by decide +kernel
theorem dd_M_pulled_0 : decode mt_M_pulled.2.1 0 = .ok (.aload_n 0, 1) := by decide +kernel
theorem dd_M_pulled_1 : decode mt_M_pulled.2.1 1 = .ok (.iload_n 1, 1) := by decide +kernel
theorem dd_M_pulled_2 : decode mt_M_pulled.2.1 2 = .ok (.invokevirtual 295, 3) := by decide +kernel
theorem dd_M_pulled_5 : decode mt_M_pulled.2.1 5 = .ok (.ifCond .ne 38, 3) := by decide +kernel
theorem dd_M_pulled_8 : decode mt_M_pulled.2.1 8 = .ok (.aload_n 0, 1) := by decide +kernel
theorem dd_M_pulled_9 : decode mt_M_pulled.2.1 9 = .ok (.iload_n 1, 1) := by decide +kernel
theorem dd_M_pulled_10 : decode mt_M_pulled.2.1 10 = .ok (.invokevirtual 212, 3) := by decide +kernel
theorem dd_M_pulled_13 : decode mt_M_pulled.2.1 13 = .ok (.ifCond .ne 30, 3) := by decide +kernel
theorem dd_M_pulled_16 : decode mt_M_pulled.2.1 16 = .ok (.aload_n 0, 1) := by decide +kernel
theorem dd_M_pulled_17 : decode mt_M_pulled.2.1 17 = .ok (.getfield 26, 3) := by decide +kernel
theorem dd_M_pulled_20 : decode mt_M_pulled.2.1 20 = .ok (.iload_n 1, 1) := by decide +kernel
theorem dd_M_pulled_21 : decode mt_M_pulled.2.1 21 = .ok (.baload, 1) := by decide +kernel
theorem dd_M_pulled_22 : decode mt_M_pulled.2.1 22 = .ok (.ifCond .eq 21, 3) := by decide +kernel
theorem dd_M_pulled_25 : decode mt_M_pulled.2.1 25 = .ok (.aload_n 0, 1) := by decide +kernel
theorem dd_M_pulled_26 : decode mt_M_pulled.2.1 26 = .ok (.getfield 50, 3) := by decide +kernel
theorem dd_M_pulled_29 : decode mt_M_pulled.2.1 29 = .ok (.iload_n 1, 1) := by decide +kernel
theorem dd_M_pulled_30 : decode mt_M_pulled.2.1 30 = .ok (.baload, 1) := by decide +kernel
theorem dd_M_pulled_31 : decode mt_M_pulled.2.1 31 = .ok (.ifCond .ne 12, 3) := by decide +kernel
theorem dd_M_pulled_34 : decode mt_M_pulled.2.1 34 = .ok (.aload_n 0, 1) := by decide +kernel
theorem dd_M_pulled_35 : decode mt_M_pulled.2.1 35 = .ok (.iload_n 2, 1) := by decide +kernel
theorem dd_M_pulled_36 : decode mt_M_pulled.2.1 36 = .ok (.iconst (-1), 1) := by decide +kernel
theorem dd_M_pulled_37 : decode mt_M_pulled.2.1 37 = .ok (.invokevirtual 304, 3) := by decide +kernel
theorem dd_M_pulled_40 : decode mt_M_pulled.2.1 40 = .ok (.ifCond .eq 5, 3) := by decide +kernel
theorem dd_M_pulled_43 : decode mt_M_pulled.2.1 43 = .ok (.iconst 0, 1) := by decide +kernel
theorem dd_M_pulled_44 : decode mt_M_pulled.2.1 44 = .ok (.ireturn, 1) := by decide +kernel
theorem dd_M_pulled_45 : decode mt_M_pulled.2.1 45 = .ok (.aload_n 0, 1) := by decide +kernel
theorem dd_M_pulled_46 : decode mt_M_pulled.2.1 46 = .ok (.getfield 50, 3) := by decide +kernel
theorem dd_M_pulled_49 : decode mt_M_pulled.2.1 49 = .ok (.iload_n 1, 1) := by decide +kernel
theorem dd_M_pulled_50 : decode mt_M_pulled.2.1 50 = .ok (.iconst 1, 1) := by decide +kernel
theorem dd_M_pulled_51 : decode mt_M_pulled.2.1 51 = .ok (.bastore, 1) := by decide +kernel
theorem dd_M_pulled_52 : decode mt_M_pulled.2.1 52 = .ok (.aload_n 0, 1) := by decide +kernel
theorem dd_M_pulled_53 : decode mt_M_pulled.2.1 53 = .ok (.iconst 1, 1) := by decide +kernel
theorem dd_M_pulled_54 : decode mt_M_pulled.2.1 54 = .ok (.iload_n 1, 1) := by decide +kernel
theorem dd_M_pulled_55 : decode mt_M_pulled.2.1 55 = .ok (.iload_n 2, 1) := by decide +kernel
theorem dd_M_pulled_56 : decode mt_M_pulled.2.1 56 = .ok (.invokevirtual 178, 3) := by decide +kernel
theorem dd_M_pulled_59 : decode mt_M_pulled.2.1 59 = .ok (.aload_n 0, 1) := by decide +kernel
theorem dd_M_pulled_60 : decode mt_M_pulled.2.1 60 = .ok (.invokevirtual 278, 3) := by decide +kernel
theorem dd_M_pulled_63 : decode mt_M_pulled.2.1 63 = .ok (.iconst 1, 1) := by decide +kernel
theorem dd_M_pulled_64 : decode mt_M_pulled.2.1 64 = .ok (.ireturn, 1) := by decide +kernel
theorem dd_M_read_0 : decode mt_M_read.2.1 0 = .ok (.aload_n 0, 1) := by decide +kernel
theorem dd_M_read_1 : decode mt_M_read.2.1 1 = .ok (.iload_n 1, 1) := by decide +kernel
theorem dd_M_read_2 : decode mt_M_read.2.1 2 = .ok (.invokevirtual 295, 3) := by decide +kernel
theorem dd_M_read_5 : decode mt_M_read.2.1 5 = .ok (.ifCond .eq 5, 3) := by decide +kernel
theorem dd_M_read_8 : decode mt_M_read.2.1 8 = .ok (.iconst (-1), 1) := by decide +kernel
theorem dd_M_read_9 : decode mt_M_read.2.1 9 = .ok (.ireturn, 1) := by decide +kernel
theorem dd_M_read_10 : decode mt_M_read.2.1 10 = .ok (.aload_n 0, 1) := by decide +kernel
theorem dd_M_read_11 : decode mt_M_read.2.1 11 = .ok (.getfield 32, 3) := by decide +kernel
theorem dd_M_read_14 : decode mt_M_read.2.1 14 = .ok (.iload_n 1, 1) := by decide +kernel
theorem dd_M_read_15 : decode mt_M_read.2.1 15 = .ok (.iaload, 1) := by decide +kernel
theorem dd_M_read_16 : decode mt_M_read.2.1 16 = .ok (.ifCond .eq 6, 3) := by decide +kernel
theorem dd_M_read_19 : decode mt_M_read.2.1 19 = .ok (.bipush (-2), 2) := by decide +kernel
theorem dd_M_read_21 : decode mt_M_read.2.1 21 = .ok (.ireturn, 1) := by decide +kernel
theorem dd_M_read_22 : decode mt_M_read.2.1 22 = .ok (.aload_n 0, 1) := by decide +kernel
theorem dd_M_read_23 : decode mt_M_read.2.1 23 = .ok (.getfield 44, 3) := by decide +kernel
theorem dd_M_read_26 : decode mt_M_read.2.1 26 = .ok (.iload_n 1, 1) := by decide +kernel
theorem dd_M_read_27 : decode mt_M_read.2.1 27 = .ok (.iaload, 1) := by decide +kernel
theorem dd_M_read_28 : decode mt_M_read.2.1 28 = .ok (.bipush 8, 2) := by decide +kernel
theorem dd_M_read_30 : decode mt_M_read.2.1 30 = .ok (.if_icmp .ne 6, 3) := by decide +kernel
theorem dd_M_read_33 : decode mt_M_read.2.1 33 = .ok (.bipush (-3), 2) := by decide +kernel
theorem dd_M_read_35 : decode mt_M_read.2.1 35 = .ok (.ireturn, 1) := by decide +kernel
theorem dd_M_read_36 : decode mt_M_read.2.1 36 = .ok (.aload_n 0, 1) := by decide +kernel
theorem dd_M_read_37 : decode mt_M_read.2.1 37 = .ok (.getfield 47, 3) := by decide +kernel
theorem dd_M_read_40 : decode mt_M_read.2.1 40 = .ok (.iload_n 1, 1) := by decide +kernel
theorem dd_M_read_41 : decode mt_M_read.2.1 41 = .ok (.dup2, 1) := by decide +kernel
theorem dd_M_read_42 : decode mt_M_read.2.1 42 = .ok (.iaload, 1) := by decide +kernel
theorem dd_M_read_43 : decode mt_M_read.2.1 43 = .ok (.iconst 1, 1) := by decide +kernel
theorem dd_M_read_44 : decode mt_M_read.2.1 44 = .ok (.iadd, 1) := by decide +kernel
theorem dd_M_read_45 : decode mt_M_read.2.1 45 = .ok (.iastore, 1) := by decide +kernel
theorem dd_M_read_46 : decode mt_M_read.2.1 46 = .ok (.aload_n 0, 1) := by decide +kernel
theorem dd_M_read_47 : decode mt_M_read.2.1 47 = .ok (.getfield 47, 3) := by decide +kernel
theorem dd_M_read_50 : decode mt_M_read.2.1 50 = .ok (.iload_n 1, 1) := by decide +kernel
theorem dd_M_read_51 : decode mt_M_read.2.1 51 = .ok (.iaload, 1) := by decide +kernel
theorem dd_M_read_52 : decode mt_M_read.2.1 52 = .ok (.istore_n 2, 1) := by decide +kernel
theorem dd_M_read_53 : decode mt_M_read.2.1 53 = .ok (.aload_n 0, 1) := by decide +kernel
theorem dd_M_read_54 : decode mt_M_read.2.1 54 = .ok (.iload_n 1, 1) := by decide +kernel
theorem dd_M_read_55 : decode mt_M_read.2.1 55 = .ok (.iload_n 2, 1) := by decide +kernel
theorem dd_M_read_56 : decode mt_M_read.2.1 56 = .ok (.invokevirtual 254, 3) := by decide +kernel
theorem dd_M_read_59 : decode mt_M_read.2.1 59 = .ok (.aload_n 0, 1) := by decide +kernel
theorem dd_M_read_60 : decode mt_M_read.2.1 60 = .ok (.invokevirtual 278, 3) := by decide +kernel
theorem dd_M_read_63 : decode mt_M_read.2.1 63 = .ok (.iload_n 2, 1) := by decide +kernel
theorem dd_M_read_64 : decode mt_M_read.2.1 64 = .ok (.ireturn, 1) := by decide +kernel
theorem dd_M_cancel_0 : decode mt_M_cancel.2.1 0 = .ok (.aload_n 0, 1) := by decide +kernel
theorem dd_M_cancel_1 : decode mt_M_cancel.2.1 1 = .ok (.iload_n 1, 1) := by decide +kernel
theorem dd_M_cancel_2 : decode mt_M_cancel.2.1 2 = .ok (.invokevirtual 295, 3) := by decide +kernel
theorem dd_M_cancel_5 : decode mt_M_cancel.2.1 5 = .ok (.ifCond .ne 21, 3) := by decide +kernel
theorem dd_M_cancel_8 : decode mt_M_cancel.2.1 8 = .ok (.aload_n 0, 1) := by decide +kernel
theorem dd_M_cancel_9 : decode mt_M_cancel.2.1 9 = .ok (.getfield 32, 3) := by decide +kernel
theorem dd_M_cancel_12 : decode mt_M_cancel.2.1 12 = .ok (.iload_n 1, 1) := by decide +kernel
theorem dd_M_cancel_13 : decode mt_M_cancel.2.1 13 = .ok (.iaload, 1) := by decide +kernel
theorem dd_M_cancel_14 : decode mt_M_cancel.2.1 14 = .ok (.ifCond .ne 12, 3) := by decide +kernel
theorem dd_M_cancel_17 : decode mt_M_cancel.2.1 17 = .ok (.aload_n 0, 1) := by decide +kernel
theorem dd_M_cancel_18 : decode mt_M_cancel.2.1 18 = .ok (.iload_n 2, 1) := by decide +kernel
theorem dd_M_cancel_19 : decode mt_M_cancel.2.1 19 = .ok (.iconst 0, 1) := by decide +kernel
theorem dd_M_cancel_20 : decode mt_M_cancel.2.1 20 = .ok (.invokevirtual 304, 3) := by decide +kernel
theorem dd_M_cancel_23 : decode mt_M_cancel.2.1 23 = .ok (.ifCond .eq 5, 3) := by decide +kernel
theorem dd_M_cancel_26 : decode mt_M_cancel.2.1 26 = .ok (.iconst 0, 1) := by decide +kernel
theorem dd_M_cancel_27 : decode mt_M_cancel.2.1 27 = .ok (.ireturn, 1) := by decide +kernel
theorem dd_M_cancel_28 : decode mt_M_cancel.2.1 28 = .ok (.aload_n 0, 1) := by decide +kernel
theorem dd_M_cancel_29 : decode mt_M_cancel.2.1 29 = .ok (.iload_n 1, 1) := by decide +kernel
theorem dd_M_cancel_30 : decode mt_M_cancel.2.1 30 = .ok (.iload_n 2, 1) := by decide +kernel
theorem dd_M_cancel_31 : decode mt_M_cancel.2.1 31 = .ok (.invokevirtual 242, 3) := by decide +kernel
theorem dd_M_cancel_34 : decode mt_M_cancel.2.1 34 = .ok (.aload_n 0, 1) := by decide +kernel
theorem dd_M_cancel_35 : decode mt_M_cancel.2.1 35 = .ok (.invokevirtual 278, 3) := by decide +kernel
theorem dd_M_cancel_38 : decode mt_M_cancel.2.1 38 = .ok (.iconst 1, 1) := by decide +kernel
theorem dd_M_cancel_39 : decode mt_M_cancel.2.1 39 = .ok (.ireturn, 1) := by decide +kernel
theorem dd_M_write_0 : decode mt_M_write.2.1 0 = .ok (.aload_n 0, 1) := by decide +kernel
theorem dd_M_write_1 : decode mt_M_write.2.1 1 = .ok (.iload_n 1, 1) := by decide +kernel
theorem dd_M_write_2 : decode mt_M_write.2.1 2 = .ok (.invokevirtual 308, 3) := by decide +kernel
theorem dd_M_write_5 : decode mt_M_write.2.1 5 = .ok (.ifCond .eq 5, 3) := by decide +kernel
theorem dd_M_write_8 : decode mt_M_write.2.1 8 = .ok (.iconst (-1), 1) := by decide +kernel
theorem dd_M_write_9 : decode mt_M_write.2.1 9 = .ok (.ireturn, 1) := by decide +kernel
theorem dd_M_write_10 : decode mt_M_write.2.1 10 = .ok (.aload_n 0, 1) := by decide +kernel
theorem dd_M_write_11 : decode mt_M_write.2.1 11 = .ok (.getfield 107, 3) := by decide +kernel
theorem dd_M_write_14 : decode mt_M_write.2.1 14 = .ok (.iload_n 1, 1) := by decide +kernel
theorem dd_M_write_15 : decode mt_M_write.2.1 15 = .ok (.baload, 1) := by decide +kernel
theorem dd_M_write_16 : decode mt_M_write.2.1 16 = .ok (.ifCond .eq 6, 3) := by decide +kernel
theorem dd_M_write_19 : decode mt_M_write.2.1 19 = .ok (.bipush (-2), 2) := by decide +kernel
theorem dd_M_write_21 : decode mt_M_write.2.1 21 = .ok (.ireturn, 1) := by decide +kernel
theorem dd_M_write_22 : decode mt_M_write.2.1 22 = .ok (.aload_n 0, 1) := by decide +kernel
theorem dd_M_write_23 : decode mt_M_write.2.1 23 = .ok (.getfield 86, 3) := by decide +kernel
theorem dd_M_write_26 : decode mt_M_write.2.1 26 = .ok (.iload_n 1, 1) := by decide +kernel
theorem dd_M_write_27 : decode mt_M_write.2.1 27 = .ok (.iaload, 1) := by decide +kernel
theorem dd_M_write_28 : decode mt_M_write.2.1 28 = .ok (.bipush 16, 2) := by decide +kernel
theorem dd_M_write_30 : decode mt_M_write.2.1 30 = .ok (.if_icmp .ne 6, 3) := by decide +kernel
theorem dd_M_write_33 : decode mt_M_write.2.1 33 = .ok (.bipush (-3), 2) := by decide +kernel
theorem dd_M_write_35 : decode mt_M_write.2.1 35 = .ok (.ireturn, 1) := by decide +kernel
theorem dd_M_write_36 : decode mt_M_write.2.1 36 = .ok (.aload_n 0, 1) := by decide +kernel
theorem dd_M_write_37 : decode mt_M_write.2.1 37 = .ok (.iload_n 1, 1) := by decide +kernel
theorem dd_M_write_38 : decode mt_M_write.2.1 38 = .ok (.iload_n 2, 1) := by decide +kernel
theorem dd_M_write_39 : decode mt_M_write.2.1 39 = .ok (.invokevirtual 182, 3) := by decide +kernel
theorem dd_M_write_42 : decode mt_M_write.2.1 42 = .ok (.istore_n 3, 1) := by decide +kernel
theorem dd_M_write_43 : decode mt_M_write.2.1 43 = .ok (.aload_n 0, 1) := by decide +kernel
theorem dd_M_write_44 : decode mt_M_write.2.1 44 = .ok (.invokevirtual 278, 3) := by decide +kernel
theorem dd_M_write_47 : decode mt_M_write.2.1 47 = .ok (.iload_n 3, 1) := by decide +kernel
theorem dd_M_write_48 : decode mt_M_write.2.1 48 = .ok (.ireturn, 1) := by decide +kernel
theorem dd_M_shut_0 : decode mt_M_shut.2.1 0 = .ok (.aload_n 0, 1) := by decide +kernel
theorem dd_M_shut_1 : decode mt_M_shut.2.1 1 = .ok (.iload_n 1, 1) := by decide +kernel
theorem dd_M_shut_2 : decode mt_M_shut.2.1 2 = .ok (.invokevirtual 308, 3) := by decide +kernel
theorem dd_M_shut_5 : decode mt_M_shut.2.1 5 = .ok (.ifCond .ne 41, 3) := by decide +kernel
theorem dd_M_shut_8 : decode mt_M_shut.2.1 8 = .ok (.aload_n 0, 1) := by decide +kernel
theorem dd_M_shut_9 : decode mt_M_shut.2.1 9 = .ok (.getfield 107, 3) := by decide +kernel
theorem dd_M_shut_12 : decode mt_M_shut.2.1 12 = .ok (.iload_n 1, 1) := by decide +kernel
theorem dd_M_shut_13 : decode mt_M_shut.2.1 13 = .ok (.baload, 1) := by decide +kernel
theorem dd_M_shut_14 : decode mt_M_shut.2.1 14 = .ok (.ifCond .ne 32, 3) := by decide +kernel
theorem dd_M_shut_17 : decode mt_M_shut.2.1 17 = .ok (.aload_n 0, 1) := by decide +kernel
theorem dd_M_shut_18 : decode mt_M_shut.2.1 18 = .ok (.getfield 68, 3) := by decide +kernel
theorem dd_M_shut_21 : decode mt_M_shut.2.1 21 = .ok (.iload_n 1, 1) := by decide +kernel
theorem dd_M_shut_22 : decode mt_M_shut.2.1 22 = .ok (.iaload, 1) := by decide +kernel
theorem dd_M_shut_23 : decode mt_M_shut.2.1 23 = .ok (.iconst 1, 1) := by decide +kernel
theorem dd_M_shut_24 : decode mt_M_shut.2.1 24 = .ok (.if_icmp .gt 22, 3) := by decide +kernel
theorem dd_M_shut_27 : decode mt_M_shut.2.1 27 = .ok (.aload_n 0, 1) := by decide +kernel
theorem dd_M_shut_28 : decode mt_M_shut.2.1 28 = .ok (.getfield 92, 3) := by decide +kernel
theorem dd_M_shut_31 : decode mt_M_shut.2.1 31 = .ok (.iload_n 1, 1) := by decide +kernel
theorem dd_M_shut_32 : decode mt_M_shut.2.1 32 = .ok (.baload, 1) := by decide +kernel
theorem dd_M_shut_33 : decode mt_M_shut.2.1 33 = .ok (.ifCond .ne 13, 3) := by decide +kernel
theorem dd_M_shut_36 : decode mt_M_shut.2.1 36 = .ok (.aload_n 0, 1) := by decide +kernel
theorem dd_M_shut_37 : decode mt_M_shut.2.1 37 = .ok (.getfield 95, 3) := by decide +kernel
theorem dd_M_shut_40 : decode mt_M_shut.2.1 40 = .ok (.iload_n 1, 1) := by decide +kernel
theorem dd_M_shut_41 : decode mt_M_shut.2.1 41 = .ok (.iaload, 1) := by decide +kernel
theorem dd_M_shut_42 : decode mt_M_shut.2.1 42 = .ok (.iconst 4, 1) := by decide +kernel
theorem dd_M_shut_43 : decode mt_M_shut.2.1 43 = .ok (.if_icmp .ne 5, 3) := by decide +kernel
theorem dd_M_shut_46 : decode mt_M_shut.2.1 46 = .ok (.iconst 0, 1) := by decide +kernel
theorem dd_M_shut_47 : decode mt_M_shut.2.1 47 = .ok (.ireturn, 1) := by decide +kernel
theorem dd_M_shut_48 : decode mt_M_shut.2.1 48 = .ok (.aload_n 0, 1) := by decide +kernel
theorem dd_M_shut_49 : decode mt_M_shut.2.1 49 = .ok (.iload_n 1, 1) := by decide +kernel
theorem dd_M_shut_50 : decode mt_M_shut.2.1 50 = .ok (.invokevirtual 245, 3) := by decide +kernel
theorem dd_M_shut_53 : decode mt_M_shut.2.1 53 = .ok (.aload_n 0, 1) := by decide +kernel
theorem dd_M_shut_54 : decode mt_M_shut.2.1 54 = .ok (.invokevirtual 278, 3) := by decide +kernel
theorem dd_M_shut_57 : decode mt_M_shut.2.1 57 = .ok (.iconst 1, 1) := by decide +kernel
theorem dd_M_shut_58 : decode mt_M_shut.2.1 58 = .ok (.ireturn, 1) := by decide +kernel
theorem dd_M_abort_0 : decode mt_M_abort.2.1 0 = .ok (.aload_n 0, 1) := by decide +kernel
theorem dd_M_abort_1 : decode mt_M_abort.2.1 1 = .ok (.iload_n 1, 1) := by decide +kernel
theorem dd_M_abort_2 : decode mt_M_abort.2.1 2 = .ok (.invokevirtual 308, 3) := by decide +kernel
theorem dd_M_abort_5 : decode mt_M_abort.2.1 5 = .ok (.ifCond .ne 40, 3) := by decide +kernel
theorem dd_M_abort_8 : decode mt_M_abort.2.1 8 = .ok (.aload_n 0, 1) := by decide +kernel
theorem dd_M_abort_9 : decode mt_M_abort.2.1 9 = .ok (.getfield 107, 3) := by decide +kernel
theorem dd_M_abort_12 : decode mt_M_abort.2.1 12 = .ok (.iload_n 1, 1) := by decide +kernel
theorem dd_M_abort_13 : decode mt_M_abort.2.1 13 = .ok (.baload, 1) := by decide +kernel
theorem dd_M_abort_14 : decode mt_M_abort.2.1 14 = .ok (.ifCond .ne 31, 3) := by decide +kernel
theorem dd_M_abort_17 : decode mt_M_abort.2.1 17 = .ok (.aload_n 0, 1) := by decide +kernel
theorem dd_M_abort_18 : decode mt_M_abort.2.1 18 = .ok (.getfield 98, 3) := by decide +kernel
theorem dd_M_abort_21 : decode mt_M_abort.2.1 21 = .ok (.iload_n 1, 1) := by decide +kernel
theorem dd_M_abort_22 : decode mt_M_abort.2.1 22 = .ok (.baload, 1) := by decide +kernel
theorem dd_M_abort_23 : decode mt_M_abort.2.1 23 = .ok (.ifCond .ne 22, 3) := by decide +kernel
theorem dd_M_abort_26 : decode mt_M_abort.2.1 26 = .ok (.aload_n 0, 1) := by decide +kernel
theorem dd_M_abort_27 : decode mt_M_abort.2.1 27 = .ok (.getfield 95, 3) := by decide +kernel
theorem dd_M_abort_30 : decode mt_M_abort.2.1 30 = .ok (.iload_n 1, 1) := by decide +kernel
theorem dd_M_abort_31 : decode mt_M_abort.2.1 31 = .ok (.iaload, 1) := by decide +kernel
theorem dd_M_abort_32 : decode mt_M_abort.2.1 32 = .ok (.iconst 5, 1) := by decide +kernel
theorem dd_M_abort_33 : decode mt_M_abort.2.1 33 = .ok (.if_icmp .eq 12, 3) := by decide +kernel
theorem dd_M_abort_36 : decode mt_M_abort.2.1 36 = .ok (.aload_n 0, 1) := by decide +kernel
theorem dd_M_abort_37 : decode mt_M_abort.2.1 37 = .ok (.iload_n 2, 1) := by decide +kernel
theorem dd_M_abort_38 : decode mt_M_abort.2.1 38 = .ok (.iconst 0, 1) := by decide +kernel
theorem dd_M_abort_39 : decode mt_M_abort.2.1 39 = .ok (.invokevirtual 304, 3) := by decide +kernel
theorem dd_M_abort_42 : decode mt_M_abort.2.1 42 = .ok (.ifCond .eq 5, 3) := by decide +kernel
theorem dd_M_abort_45 : decode mt_M_abort.2.1 45 = .ok (.iconst 0, 1) := by decide +kernel
theorem dd_M_abort_46 : decode mt_M_abort.2.1 46 = .ok (.ireturn, 1) := by decide +kernel
theorem dd_M_abort_47 : decode mt_M_abort.2.1 47 = .ok (.aload_n 0, 1) := by decide +kernel
theorem dd_M_abort_48 : decode mt_M_abort.2.1 48 = .ok (.iload_n 1, 1) := by decide +kernel
theorem dd_M_abort_49 : decode mt_M_abort.2.1 49 = .ok (.iload_n 2, 1) := by decide +kernel
theorem dd_M_abort_50 : decode mt_M_abort.2.1 50 = .ok (.invokevirtual 236, 3) := by decide +kernel
theorem dd_M_abort_53 : decode mt_M_abort.2.1 53 = .ok (.aload_n 0, 1) := by decide +kernel
theorem dd_M_abort_54 : decode mt_M_abort.2.1 54 = .ok (.invokevirtual 278, 3) := by decide +kernel
theorem dd_M_abort_57 : decode mt_M_abort.2.1 57 = .ok (.iconst 1, 1) := by decide +kernel
theorem dd_M_abort_58 : decode mt_M_abort.2.1 58 = .ok (.ireturn, 1) := by decide +kernel
theorem dd_M_spoil_0 : decode mt_M_spoil.2.1 0 = .ok (.aload_n 0, 1) := by decide +kernel
theorem dd_M_spoil_1 : decode mt_M_spoil.2.1 1 = .ok (.iload_n 1, 1) := by decide +kernel
theorem dd_M_spoil_2 : decode mt_M_spoil.2.1 2 = .ok (.invokevirtual 308, 3) := by decide +kernel
theorem dd_M_spoil_5 : decode mt_M_spoil.2.1 5 = .ok (.ifCond .ne 21, 3) := by decide +kernel
theorem dd_M_spoil_8 : decode mt_M_spoil.2.1 8 = .ok (.aload_n 0, 1) := by decide +kernel
theorem dd_M_spoil_9 : decode mt_M_spoil.2.1 9 = .ok (.getfield 68, 3) := by decide +kernel
theorem dd_M_spoil_12 : decode mt_M_spoil.2.1 12 = .ok (.iload_n 1, 1) := by decide +kernel
theorem dd_M_spoil_13 : decode mt_M_spoil.2.1 13 = .ok (.iaload, 1) := by decide +kernel
theorem dd_M_spoil_14 : decode mt_M_spoil.2.1 14 = .ok (.ifCond .ne 12, 3) := by decide +kernel
theorem dd_M_spoil_17 : decode mt_M_spoil.2.1 17 = .ok (.aload_n 0, 1) := by decide +kernel
theorem dd_M_spoil_18 : decode mt_M_spoil.2.1 18 = .ok (.iload_n 2, 1) := by decide +kernel
theorem dd_M_spoil_19 : decode mt_M_spoil.2.1 19 = .ok (.iconst 0, 1) := by decide +kernel
theorem dd_M_spoil_20 : decode mt_M_spoil.2.1 20 = .ok (.invokevirtual 304, 3) := by decide +kernel
theorem dd_M_spoil_23 : decode mt_M_spoil.2.1 23 = .ok (.ifCond .eq 5, 3) := by decide +kernel
theorem dd_M_spoil_26 : decode mt_M_spoil.2.1 26 = .ok (.iconst 0, 1) := by decide +kernel
theorem dd_M_spoil_27 : decode mt_M_spoil.2.1 27 = .ok (.ireturn, 1) := by decide +kernel
theorem dd_M_spoil_28 : decode mt_M_spoil.2.1 28 = .ok (.aload_n 0, 1) := by decide +kernel
theorem dd_M_spoil_29 : decode mt_M_spoil.2.1 29 = .ok (.iload_n 1, 1) := by decide +kernel
theorem dd_M_spoil_30 : decode mt_M_spoil.2.1 30 = .ok (.iload_n 2, 1) := by decide +kernel
theorem dd_M_spoil_31 : decode mt_M_spoil.2.1 31 = .ok (.invokevirtual 175, 3) := by decide +kernel
theorem dd_M_spoil_34 : decode mt_M_spoil.2.1 34 = .ok (.aload_n 0, 1) := by decide +kernel
theorem dd_M_spoil_35 : decode mt_M_spoil.2.1 35 = .ok (.invokevirtual 278, 3) := by decide +kernel
theorem dd_M_spoil_38 : decode mt_M_spoil.2.1 38 = .ok (.iconst 1, 1) := by decide +kernel
theorem dd_M_spoil_39 : decode mt_M_spoil.2.1 39 = .ok (.ireturn, 1) := by decide +kernel
theorem dd_M_settle_0 : decode mt_M_settle.2.1 0 = .ok (.aload_n 0, 1) := by decide +kernel
theorem dd_M_settle_1 : decode mt_M_settle.2.1 1 = .ok (.iload_n 1, 1) := by decide +kernel
theorem dd_M_settle_2 : decode mt_M_settle.2.1 2 = .ok (.invokevirtual 308, 3) := by decide +kernel
theorem dd_M_settle_5 : decode mt_M_settle.2.1 5 = .ok (.ifCond .ne 30, 3) := by decide +kernel
theorem dd_M_settle_8 : decode mt_M_settle.2.1 8 = .ok (.aload_n 0, 1) := by decide +kernel
theorem dd_M_settle_9 : decode mt_M_settle.2.1 9 = .ok (.getfield 95, 3) := by decide +kernel
theorem dd_M_settle_12 : decode mt_M_settle.2.1 12 = .ok (.iload_n 1, 1) := by decide +kernel
theorem dd_M_settle_13 : decode mt_M_settle.2.1 13 = .ok (.iaload, 1) := by decide +kernel
theorem dd_M_settle_14 : decode mt_M_settle.2.1 14 = .ok (.ifCond .eq 21, 3) := by decide +kernel
theorem dd_M_settle_17 : decode mt_M_settle.2.1 17 = .ok (.aload_n 0, 1) := by decide +kernel
theorem dd_M_settle_18 : decode mt_M_settle.2.1 18 = .ok (.getfield 110, 3) := by decide +kernel
theorem dd_M_settle_21 : decode mt_M_settle.2.1 21 = .ok (.iload_n 1, 1) := by decide +kernel
theorem dd_M_settle_22 : decode mt_M_settle.2.1 22 = .ok (.baload, 1) := by decide +kernel
theorem dd_M_settle_23 : decode mt_M_settle.2.1 23 = .ok (.ifCond .ne 12, 3) := by decide +kernel
theorem dd_M_settle_26 : decode mt_M_settle.2.1 26 = .ok (.aload_n 0, 1) := by decide +kernel
theorem dd_M_settle_27 : decode mt_M_settle.2.1 27 = .ok (.iload_n 2, 1) := by decide +kernel
theorem dd_M_settle_28 : decode mt_M_settle.2.1 28 = .ok (.iconst (-1), 1) := by decide +kernel
theorem dd_M_settle_29 : decode mt_M_settle.2.1 29 = .ok (.invokevirtual 304, 3) := by decide +kernel
theorem dd_M_settle_32 : decode mt_M_settle.2.1 32 = .ok (.ifCond .eq 5, 3) := by decide +kernel
theorem dd_M_settle_35 : decode mt_M_settle.2.1 35 = .ok (.iconst 0, 1) := by decide +kernel
theorem dd_M_settle_36 : decode mt_M_settle.2.1 36 = .ok (.ireturn, 1) := by decide +kernel
theorem dd_M_settle_37 : decode mt_M_settle.2.1 37 = .ok (.aload_n 0, 1) := by decide +kernel
theorem dd_M_settle_38 : decode mt_M_settle.2.1 38 = .ok (.getfield 110, 3) := by decide +kernel
theorem dd_M_settle_41 : decode mt_M_settle.2.1 41 = .ok (.iload_n 1, 1) := by decide +kernel
theorem dd_M_settle_42 : decode mt_M_settle.2.1 42 = .ok (.iconst 1, 1) := by decide +kernel
theorem dd_M_settle_43 : decode mt_M_settle.2.1 43 = .ok (.bastore, 1) := by decide +kernel
theorem dd_M_settle_44 : decode mt_M_settle.2.1 44 = .ok (.aload_n 0, 1) := by decide +kernel
theorem dd_M_settle_45 : decode mt_M_settle.2.1 45 = .ok (.aload_n 0, 1) := by decide +kernel
theorem dd_M_settle_46 : decode mt_M_settle.2.1 46 = .ok (.getfield 95, 3) := by decide +kernel
theorem dd_M_settle_49 : decode mt_M_settle.2.1 49 = .ok (.iload_n 1, 1) := by decide +kernel
theorem dd_M_settle_50 : decode mt_M_settle.2.1 50 = .ok (.iaload, 1) := by decide +kernel
theorem dd_M_settle_51 : decode mt_M_settle.2.1 51 = .ok (.iload_n 1, 1) := by decide +kernel
theorem dd_M_settle_52 : decode mt_M_settle.2.1 52 = .ok (.iload_n 2, 1) := by decide +kernel
theorem dd_M_settle_53 : decode mt_M_settle.2.1 53 = .ok (.invokevirtual 178, 3) := by decide +kernel
theorem dd_M_settle_56 : decode mt_M_settle.2.1 56 = .ok (.aload_n 0, 1) := by decide +kernel
theorem dd_M_settle_57 : decode mt_M_settle.2.1 57 = .ok (.invokevirtual 278, 3) := by decide +kernel
theorem dd_M_settle_60 : decode mt_M_settle.2.1 60 = .ok (.iconst 1, 1) := by decide +kernel
theorem dd_M_settle_61 : decode mt_M_settle.2.1 61 = .ok (.ireturn, 1) := by decide +kernel
