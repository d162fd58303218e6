theorem dd_K_doFirstJob_0 : decode mt_K_doFirstJob.2.1 0 = .ok (.aload_n 0, 1) := by decide +kernel
theorem dd_K_doFirstJob_1 : decode mt_K_doFirstJob.2.1 1 = .ok (.getfield 19, 3) := by decide +kernel
theorem dd_K_doFirstJob_4 : decode mt_K_doFirstJob.2.1 4 = .ok (.getfield 307, 3) := by decide +kernel
theorem dd_K_doFirstJob_7 : decode mt_K_doFirstJob.2.1 7 = .ok (.invokevirtual 245, 3) := by decide +kernel
theorem dd_K_doFirstJob_10 : decode mt_K_doFirstJob.2.1 10 = .ok (.istore_n 1, 1) := by decide +kernel
theorem dd_K_doFirstJob_11 : decode mt_K_doFirstJob.2.1 11 = .ok (.aload_n 0, 1) := by decide +kernel
theorem dd_K_doFirstJob_12 : decode mt_K_doFirstJob.2.1 12 = .ok (.getfield 19, 3) := by decide +kernel
theorem dd_K_doFirstJob_15 : decode mt_K_doFirstJob.2.1 15 = .ok (.getfield 310, 3) := by decide +kernel
theorem dd_K_doFirstJob_18 : decode mt_K_doFirstJob.2.1 18 = .ok (.invokevirtual 245, 3) := by decide +kernel
theorem dd_K_doFirstJob_21 : decode mt_K_doFirstJob.2.1 21 = .ok (.istore_n 2, 1) := by decide +kernel
theorem dd_K_doFirstJob_22 : decode mt_K_doFirstJob.2.1 22 = .ok (.aload_n 0, 1) := by decide +kernel
theorem dd_K_doFirstJob_23 : decode mt_K_doFirstJob.2.1 23 = .ok (.getfield 19, 3) := by decide +kernel
theorem dd_K_doFirstJob_26 : decode mt_K_doFirstJob.2.1 26 = .ok (.getfield 313, 3) := by decide +kernel
theorem dd_K_doFirstJob_29 : decode mt_K_doFirstJob.2.1 29 = .ok (.invokevirtual 245, 3) := by decide +kernel
theorem dd_K_doFirstJob_32 : decode mt_K_doFirstJob.2.1 32 = .ok (.istore_n 3, 1) := by decide +kernel
theorem dd_K_doFirstJob_33 : decode mt_K_doFirstJob.2.1 33 = .ok (.iconst 1, 1) := by decide +kernel
theorem dd_K_doFirstJob_34 : decode mt_K_doFirstJob.2.1 34 = .ok (.istore 4, 2) := by decide +kernel
theorem dd_K_doFirstJob_36 : decode mt_K_doFirstJob.2.1 36 = .ok (.iload_n 1, 1) := by decide +kernel
theorem dd_K_doFirstJob_37 : decode mt_K_doFirstJob.2.1 37 = .ok (.iconst 1, 1) := by decide +kernel
theorem dd_K_doFirstJob_38 : decode mt_K_doFirstJob.2.1 38 = .ok (.if_icmp .ne 16, 3) := by decide +kernel
theorem dd_K_doFirstJob_41 : decode mt_K_doFirstJob.2.1 41 = .ok (.aload_n 0, 1) := by decide +kernel
theorem dd_K_doFirstJob_42 : decode mt_K_doFirstJob.2.1 42 = .ok (.aload_n 0, 1) := by decide +kernel
theorem dd_K_doFirstJob_43 : decode mt_K_doFirstJob.2.1 43 = .ok (.iload_n 2, 1) := by decide +kernel
theorem dd_K_doFirstJob_44 : decode mt_K_doFirstJob.2.1 44 = .ok (.invokevirtual 133, 3) := by decide +kernel
theorem dd_K_doFirstJob_47 : decode mt_K_doFirstJob.2.1 47 = .ok (.iload_n 3, 1) := by decide +kernel
theorem dd_K_doFirstJob_48 : decode mt_K_doFirstJob.2.1 48 = .ok (.invokevirtual 316, 3) := by decide +kernel
theorem dd_K_doFirstJob_51 : decode mt_K_doFirstJob.2.1 51 = .ok (.goto 52, 3) := by decide +kernel
theorem dd_K_doFirstJob_54 : decode mt_K_doFirstJob.2.1 54 = .ok (.iload_n 1, 1) := by decide +kernel
theorem dd_K_doFirstJob_55 : decode mt_K_doFirstJob.2.1 55 = .ok (.iconst 2, 1) := by decide +kernel
theorem dd_K_doFirstJob_56 : decode mt_K_doFirstJob.2.1 56 = .ok (.if_icmp .ne 16, 3) := by decide +kernel
theorem dd_K_doFirstJob_59 : decode mt_K_doFirstJob.2.1 59 = .ok (.aload_n 0, 1) := by decide +kernel
theorem dd_K_doFirstJob_60 : decode mt_K_doFirstJob.2.1 60 = .ok (.aload_n 0, 1) := by decide +kernel
theorem dd_K_doFirstJob_61 : decode mt_K_doFirstJob.2.1 61 = .ok (.iload_n 2, 1) := by decide +kernel
theorem dd_K_doFirstJob_62 : decode mt_K_doFirstJob.2.1 62 = .ok (.invokevirtual 133, 3) := by decide +kernel
theorem dd_K_doFirstJob_65 : decode mt_K_doFirstJob.2.1 65 = .ok (.iload_n 3, 1) := by decide +kernel
theorem dd_K_doFirstJob_66 : decode mt_K_doFirstJob.2.1 66 = .ok (.invokevirtual 319, 3) := by decide +kernel
theorem dd_K_doFirstJob_69 : decode mt_K_doFirstJob.2.1 69 = .ok (.goto 34, 3) := by decide +kernel
theorem dd_K_doFirstJob_72 : decode mt_K_doFirstJob.2.1 72 = .ok (.iload_n 1, 1) := by decide +kernel
theorem dd_K_doFirstJob_73 : decode mt_K_doFirstJob.2.1 73 = .ok (.bipush 6, 2) := by decide +kernel
theorem dd_K_doFirstJob_75 : decode mt_K_doFirstJob.2.1 75 = .ok (.if_icmp .ne 17, 3) := by decide +kernel
theorem dd_K_doFirstJob_78 : decode mt_K_doFirstJob.2.1 78 = .ok (.aload_n 0, 1) := by decide +kernel
theorem dd_K_doFirstJob_79 : decode mt_K_doFirstJob.2.1 79 = .ok (.aload_n 0, 1) := by decide +kernel
theorem dd_K_doFirstJob_80 : decode mt_K_doFirstJob.2.1 80 = .ok (.iload_n 2, 1) := by decide +kernel
theorem dd_K_doFirstJob_81 : decode mt_K_doFirstJob.2.1 81 = .ok (.invokevirtual 300, 3) := by decide +kernel
theorem dd_K_doFirstJob_84 : decode mt_K_doFirstJob.2.1 84 = .ok (.invokevirtual 322, 3) := by decide +kernel
theorem dd_K_doFirstJob_87 : decode mt_K_doFirstJob.2.1 87 = .ok (.istore 4, 2) := by decide +kernel
theorem dd_K_doFirstJob_89 : decode mt_K_doFirstJob.2.1 89 = .ok (.goto 14, 3) := by decide +kernel
theorem dd_K_doFirstJob_92 : decode mt_K_doFirstJob.2.1 92 = .ok (.aload_n 0, 1) := by decide +kernel
theorem dd_K_doFirstJob_93 : decode mt_K_doFirstJob.2.1 93 = .ok (.aload_n 0, 1) := by decide +kernel
theorem dd_K_doFirstJob_94 : decode mt_K_doFirstJob.2.1 94 = .ok (.iload_n 2, 1) := by decide +kernel
theorem dd_K_doFirstJob_95 : decode mt_K_doFirstJob.2.1 95 = .ok (.invokevirtual 148, 3) := by decide +kernel
theorem dd_K_doFirstJob_98 : decode mt_K_doFirstJob.2.1 98 = .ok (.iload_n 1, 1) := by decide +kernel
theorem dd_K_doFirstJob_99 : decode mt_K_doFirstJob.2.1 99 = .ok (.iload_n 3, 1) := by decide +kernel
theorem dd_K_doFirstJob_100 : decode mt_K_doFirstJob.2.1 100 = .ok (.invokevirtual 326, 3) := by decide +kernel
theorem dd_K_doFirstJob_103 : decode mt_K_doFirstJob.2.1 103 = .ok (.iload 4, 2) := by decide +kernel
theorem dd_K_doFirstJob_105 : decode mt_K_doFirstJob.2.1 105 = .ok (.ifCond .eq 7, 3) := by decide +kernel
theorem dd_K_doFirstJob_108 : decode mt_K_doFirstJob.2.1 108 = .ok (.aload_n 0, 1) := by decide +kernel
theorem dd_K_doFirstJob_109 : decode mt_K_doFirstJob.2.1 109 = .ok (.invokevirtual 57, 3) := by decide +kernel
theorem dd_K_doFirstJob_112 : decode mt_K_doFirstJob.2.1 112 = .ok (.iload_n 1, 1) := by decide +kernel
theorem dd_K_doFirstJob_113 : decode mt_K_doFirstJob.2.1 113 = .ok (.ireturn, 1) := by decide +kernel
theorem dd_K_step_0 : decode mt_K_step.2.1 0 = .ok (.aload_n 0, 1) := by decide +kernel
theorem dd_K_step_1 : decode mt_K_step.2.1 1 = .ok (.getfield 19, 3) := by decide +kernel
theorem dd_K_step_4 : decode mt_K_step.2.1 4 = .ok (.invokevirtual 214, 3) := by decide +kernel
theorem dd_K_step_7 : decode mt_K_step.2.1 7 = .ok (.ifCond .ne 7, 3) := by decide +kernel
theorem dd_K_step_10 : decode mt_K_step.2.1 10 = .ok (.iconst 0, 1) := by decide +kernel
theorem dd_K_step_11 : decode mt_K_step.2.1 11 = .ok (.goto 7, 3) := by decide +kernel
theorem dd_K_step_14 : decode mt_K_step.2.1 14 = .ok (.aload_n 0, 1) := by decide +kernel
theorem dd_K_step_15 : decode mt_K_step.2.1 15 = .ok (.invokevirtual 215, 3) := by decide +kernel
theorem dd_K_step_18 : decode mt_K_step.2.1 18 = .ok (.ireturn, 1) := by decide +kernel
theorem dd_K_run_0 : decode mt_K_run.2.1 0 = .ok (.iconst 0, 1) := by decide +kernel
theorem dd_K_run_1 : decode mt_K_run.2.1 1 = .ok (.istore_n 1, 1) := by decide +kernel
theorem dd_K_run_2 : decode mt_K_run.2.1 2 = .ok (.iload_n 1, 1) := by decide +kernel
theorem dd_K_run_3 : decode mt_K_run.2.1 3 = .ok (.sipush 200, 3) := by decide +kernel
theorem dd_K_run_6 : decode mt_K_run.2.1 6 = .ok (.if_icmp .ge 24, 3) := by decide +kernel
theorem dd_K_run_9 : decode mt_K_run.2.1 9 = .ok (.aload_n 0, 1) := by decide +kernel
theorem dd_K_run_10 : decode mt_K_run.2.1 10 = .ok (.getfield 19, 3) := by decide +kernel
theorem dd_K_run_13 : decode mt_K_run.2.1 13 = .ok (.invokevirtual 214, 3) := by decide +kernel
theorem dd_K_run_16 : decode mt_K_run.2.1 16 = .ok (.ifCond .le 14, 3) := by decide +kernel
theorem dd_K_run_19 : decode mt_K_run.2.1 19 = .ok (.aload_n 0, 1) := by decide +kernel
theorem dd_K_run_20 : decode mt_K_run.2.1 20 = .ok (.invokevirtual 215, 3) := by decide +kernel
theorem dd_K_run_23 : decode mt_K_run.2.1 23 = .ok (.pop, 1) := by decide +kernel
theorem dd_K_run_24 : decode mt_K_run.2.1 24 = .ok (.iinc 1 1, 3) := by decide +kernel
theorem dd_K_run_27 : decode mt_K_run.2.1 27 = .ok (.goto (-25), 3) := by decide +kernel
theorem dd_K_run_30 : decode mt_K_run.2.1 30 = .ok (.iload_n 1, 1) := by decide +kernel
theorem dd_K_run_31 : decode mt_K_run.2.1 31 = .ok (.ireturn, 1) := by decide +kernel
theorem dd_K_jobs_0 : decode mt_K_jobs.2.1 0 = .ok (.aload_n 0, 1) := by decide +kernel
theorem dd_K_jobs_1 : decode mt_K_jobs.2.1 1 = .ok (.getfield 19, 3) := by decide +kernel
theorem dd_K_jobs_4 : decode mt_K_jobs.2.1 4 = .ok (.invokevirtual 214, 3) := by decide +kernel
theorem dd_K_jobs_7 : decode mt_K_jobs.2.1 7 = .ok (.ireturn, 1) := by decide +kernel
theorem dd_K_giverState_0 : decode mt_K_giverState.2.1 0 = .ok (.aload_n 0, 1) := by decide +kernel
theorem dd_K_giverState_1 : decode mt_K_giverState.2.1 1 = .ok (.iload_n 1, 1) := by decide +kernel
theorem dd_K_giverState_2 : decode mt_K_giverState.2.1 2 = .ok (.invokevirtual 133, 3) := by decide +kernel
theorem dd_K_giverState_5 : decode mt_K_giverState.2.1 5 = .ok (.astore_n 2, 1) := by decide +kernel
theorem dd_K_giverState_6 : decode mt_K_giverState.2.1 6 = .ok (.aload_n 2, 1) := by decide +kernel
theorem dd_K_giverState_7 : decode mt_K_giverState.2.1 7 = .ok (.ifnonnull 5, 3) := by decide +kernel
theorem dd_K_giverState_10 : decode mt_K_giverState.2.1 10 = .ok (.iconst (-1), 1) := by decide +kernel
theorem dd_K_giverState_11 : decode mt_K_giverState.2.1 11 = .ok (.ireturn, 1) := by decide +kernel
theorem dd_K_giverState_12 : decode mt_K_giverState.2.1 12 = .ok (.aload_n 2, 1) := by decide +kernel
theorem dd_K_giverState_13 : decode mt_K_giverState.2.1 13 = .ok (.getfield 110, 3) := by decide +kernel
theorem dd_K_giverState_16 : decode mt_K_giverState.2.1 16 = .ok (.bipush 32, 2) := by decide +kernel
theorem dd_K_giverState_18 : decode mt_K_giverState.2.1 18 = .ok (.aload_n 2, 1) := by decide +kernel
theorem dd_K_giverState_19 : decode mt_K_giverState.2.1 19 = .ok (.invokevirtual 136, 3) := by decide +kernel
theorem dd_K_giverState_22 : decode mt_K_giverState.2.1 22 = .ok (.imul, 1) := by decide +kernel
theorem dd_K_giverState_23 : decode mt_K_giverState.2.1 23 = .ok (.iadd, 1) := by decide +kernel
theorem dd_K_giverState_24 : decode mt_K_giverState.2.1 24 = .ok (.istore_n 3, 1) := by decide +kernel
theorem dd_K_giverState_25 : decode mt_K_giverState.2.1 25 = .ok (.iload_n 3, 1) := by decide +kernel
theorem dd_K_giverState_26 : decode mt_K_giverState.2.1 26 = .ok (.aload_n 2, 1) := by decide +kernel
theorem dd_K_giverState_27 : decode mt_K_giverState.2.1 27 = .ok (.getfield 103, 3) := by decide +kernel
theorem dd_K_giverState_30 : decode mt_K_giverState.2.1 30 = .ok (.ifCond .eq 7, 3) := by decide +kernel
theorem dd_K_giverState_33 : decode mt_K_giverState.2.1 33 = .ok (.iconst 4, 1) := by decide +kernel
theorem dd_K_giverState_34 : decode mt_K_giverState.2.1 34 = .ok (.goto 4, 3) := by decide +kernel
theorem dd_K_giverState_37 : decode mt_K_giverState.2.1 37 = .ok (.iconst 0, 1) := by decide +kernel
theorem dd_K_giverState_38 : decode mt_K_giverState.2.1 38 = .ok (.iadd, 1) := by decide +kernel
theorem dd_K_giverState_39 : decode mt_K_giverState.2.1 39 = .ok (.istore_n 3, 1) := by decide +kernel
theorem dd_K_giverState_40 : decode mt_K_giverState.2.1 40 = .ok (.iload_n 3, 1) := by decide +kernel
theorem dd_K_giverState_41 : decode mt_K_giverState.2.1 41 = .ok (.aload_n 2, 1) := by decide +kernel
theorem dd_K_giverState_42 : decode mt_K_giverState.2.1 42 = .ok (.getfield 119, 3) := by decide +kernel
theorem dd_K_giverState_45 : decode mt_K_giverState.2.1 45 = .ok (.ifCond .eq 8, 3) := by decide +kernel
theorem dd_K_giverState_48 : decode mt_K_giverState.2.1 48 = .ok (.bipush 8, 2) := by decide +kernel
theorem dd_K_giverState_50 : decode mt_K_giverState.2.1 50 = .ok (.goto 4, 3) := by decide +kernel
theorem dd_K_giverState_53 : decode mt_K_giverState.2.1 53 = .ok (.iconst 0, 1) := by decide +kernel
theorem dd_K_giverState_54 : decode mt_K_giverState.2.1 54 = .ok (.iadd, 1) := by decide +kernel
theorem dd_K_giverState_55 : decode mt_K_giverState.2.1 55 = .ok (.istore_n 3, 1) := by decide +kernel
theorem dd_K_giverState_56 : decode mt_K_giverState.2.1 56 = .ok (.iload_n 3, 1) := by decide +kernel
theorem dd_K_giverState_57 : decode mt_K_giverState.2.1 57 = .ok (.aload_n 2, 1) := by decide +kernel
theorem dd_K_giverState_58 : decode mt_K_giverState.2.1 58 = .ok (.getfield 218, 3) := by decide +kernel
theorem dd_K_giverState_61 : decode mt_K_giverState.2.1 61 = .ok (.ifCond .eq 8, 3) := by decide +kernel
theorem dd_K_giverState_64 : decode mt_K_giverState.2.1 64 = .ok (.bipush 16, 2) := by decide +kernel
theorem dd_K_giverState_66 : decode mt_K_giverState.2.1 66 = .ok (.goto 4, 3) := by decide +kernel
theorem dd_K_giverState_69 : decode mt_K_giverState.2.1 69 = .ok (.iconst 0, 1) := by decide +kernel
theorem dd_K_giverState_70 : decode mt_K_giverState.2.1 70 = .ok (.iadd, 1) := by decide +kernel
theorem dd_K_giverState_71 : decode mt_K_giverState.2.1 71 = .ok (.istore_n 3, 1) := by decide +kernel
theorem dd_K_giverState_72 : decode mt_K_giverState.2.1 72 = .ok (.iload_n 3, 1) := by decide +kernel
theorem dd_K_giverState_73 : decode mt_K_giverState.2.1 73 = .ok (.ireturn, 1) := by decide +kernel
theorem dd_K_giverRoom_0 : decode mt_K_giverRoom.2.1 0 = .ok (.aload_n 0, 1) := by decide +kernel
theorem dd_K_giverRoom_1 : decode mt_K_giverRoom.2.1 1 = .ok (.iload_n 1, 1) := by decide +kernel
theorem dd_K_giverRoom_2 : decode mt_K_giverRoom.2.1 2 = .ok (.invokevirtual 133, 3) := by decide +kernel
theorem dd_K_giverRoom_5 : decode mt_K_giverRoom.2.1 5 = .ok (.astore_n 2, 1) := by decide +kernel
theorem dd_K_giverRoom_6 : decode mt_K_giverRoom.2.1 6 = .ok (.aload_n 2, 1) := by decide +kernel
theorem dd_K_giverRoom_7 : decode mt_K_giverRoom.2.1 7 = .ok (.ifnonnull 7, 3) := by decide +kernel
theorem dd_K_giverRoom_10 : decode mt_K_giverRoom.2.1 10 = .ok (.sipush (-1000), 3) := by decide +kernel
theorem dd_K_giverRoom_13 : decode mt_K_giverRoom.2.1 13 = .ok (.ireturn, 1) := by decide +kernel
theorem dd_K_giverRoom_14 : decode mt_K_giverRoom.2.1 14 = .ok (.aload_n 2, 1) := by decide +kernel
theorem dd_K_giverRoom_15 : decode mt_K_giverRoom.2.1 15 = .ok (.getfield 110, 3) := by decide +kernel
theorem dd_K_giverRoom_18 : decode mt_K_giverRoom.2.1 18 = .ok (.ifCond .ne 13, 3) := by decide +kernel
theorem dd_K_giverRoom_21 : decode mt_K_giverRoom.2.1 21 = .ok (.aload_n 2, 1) := by decide +kernel
theorem dd_K_giverRoom_22 : decode mt_K_giverRoom.2.1 22 = .ok (.getfield 83, 3) := by decide +kernel
theorem dd_K_giverRoom_25 : decode mt_K_giverRoom.2.1 25 = .ok (.getfield 221, 3) := by decide +kernel
theorem dd_K_giverRoom_28 : decode mt_K_giverRoom.2.1 28 = .ok (.goto 4, 3) := by decide +kernel
theorem dd_K_giverRoom_31 : decode mt_K_giverRoom.2.1 31 = .ok (.iconst 0, 1) := by decide +kernel
theorem dd_K_giverRoom_32 : decode mt_K_giverRoom.2.1 32 = .ok (.ireturn, 1) := by decide +kernel
theorem dd_K_giverQueue_0 : decode mt_K_giverQueue.2.1 0 = .ok (.aload_n 0, 1) := by decide +kernel
theorem dd_K_giverQueue_1 : decode mt_K_giverQueue.2.1 1 = .ok (.iload_n 1, 1) := by decide +kernel
theorem dd_K_giverQueue_2 : decode mt_K_giverQueue.2.1 2 = .ok (.invokevirtual 133, 3) := by decide +kernel
theorem dd_K_giverQueue_5 : decode mt_K_giverQueue.2.1 5 = .ok (.astore_n 2, 1) := by decide +kernel
theorem dd_K_giverQueue_6 : decode mt_K_giverQueue.2.1 6 = .ok (.aload_n 2, 1) := by decide +kernel
theorem dd_K_giverQueue_7 : decode mt_K_giverQueue.2.1 7 = .ok (.ifnonnull 7, 3) := by decide +kernel
theorem dd_K_giverQueue_10 : decode mt_K_giverQueue.2.1 10 = .ok (.iconst (-1), 1) := by decide +kernel
theorem dd_K_giverQueue_11 : decode mt_K_giverQueue.2.1 11 = .ok (.goto 21, 3) := by decide +kernel
theorem dd_K_giverQueue_14 : decode mt_K_giverQueue.2.1 14 = .ok (.aload_n 2, 1) := by decide +kernel
theorem dd_K_giverQueue_15 : decode mt_K_giverQueue.2.1 15 = .ok (.getfield 83, 3) := by decide +kernel
theorem dd_K_giverQueue_18 : decode mt_K_giverQueue.2.1 18 = .ok (.invokevirtual 87, 3) := by decide +kernel
theorem dd_K_giverQueue_21 : decode mt_K_giverQueue.2.1 21 = .ok (.bipush 100, 2) := by decide +kernel
theorem dd_K_giverQueue_23 : decode mt_K_giverQueue.2.1 23 = .ok (.aload_n 2, 1) := by decide +kernel
theorem dd_K_giverQueue_24 : decode mt_K_giverQueue.2.1 24 = .ok (.getfield 91, 3) := by decide +kernel
theorem dd_K_giverQueue_27 : decode mt_K_giverQueue.2.1 27 = .ok (.getfield 95, 3) := by decide +kernel
theorem dd_K_giverQueue_30 : decode mt_K_giverQueue.2.1 30 = .ok (.imul, 1) := by decide +kernel
theorem dd_K_giverQueue_31 : decode mt_K_giverQueue.2.1 31 = .ok (.iadd, 1) := by decide +kernel
theorem dd_K_giverQueue_32 : decode mt_K_giverQueue.2.1 32 = .ok (.ireturn, 1) := by decide +kernel
theorem dd_K_takerState_0 : decode mt_K_takerState.2.1 0 = .ok (.aload_n 0, 1) := by decide +kernel
theorem dd_K_takerState_1 : decode mt_K_takerState.2.1 1 = .ok (.iload_n 1, 1) := by decide +kernel
theorem dd_K_takerState_2 : decode mt_K_takerState.2.1 2 = .ok (.invokevirtual 148, 3) := by decide +kernel
theorem dd_K_takerState_5 : decode mt_K_takerState.2.1 5 = .ok (.astore_n 2, 1) := by decide +kernel
theorem dd_K_takerState_6 : decode mt_K_takerState.2.1 6 = .ok (.aload_n 2, 1) := by decide +kernel
theorem dd_K_takerState_7 : decode mt_K_takerState.2.1 7 = .ok (.ifnonnull 5, 3) := by decide +kernel
theorem dd_K_takerState_10 : decode mt_K_takerState.2.1 10 = .ok (.iconst (-1), 1) := by decide +kernel
theorem dd_K_takerState_11 : decode mt_K_takerState.2.1 11 = .ok (.ireturn, 1) := by decide +kernel
theorem dd_K_takerState_12 : decode mt_K_takerState.2.1 12 = .ok (.aload_n 2, 1) := by decide +kernel
theorem dd_K_takerState_13 : decode mt_K_takerState.2.1 13 = .ok (.getfield 176, 3) := by decide +kernel
theorem dd_K_takerState_16 : decode mt_K_takerState.2.1 16 = .ok (.istore_n 3, 1) := by decide +kernel
theorem dd_K_takerState_17 : decode mt_K_takerState.2.1 17 = .ok (.iload_n 3, 1) := by decide +kernel
theorem dd_K_takerState_18 : decode mt_K_takerState.2.1 18 = .ok (.aload_n 2, 1) := by decide +kernel
theorem dd_K_takerState_19 : decode mt_K_takerState.2.1 19 = .ok (.getfield 224, 3) := by decide +kernel
theorem dd_K_takerState_22 : decode mt_K_takerState.2.1 22 = .ok (.ifCond .eq 7, 3) := by decide +kernel
theorem dd_K_takerState_25 : decode mt_K_takerState.2.1 25 = .ok (.iconst 4, 1) := by decide +kernel
theorem dd_K_takerState_26 : decode mt_K_takerState.2.1 26 = .ok (.goto 4, 3) := by decide +kernel
theorem dd_K_takerState_29 : decode mt_K_takerState.2.1 29 = .ok (.iconst 0, 1) := by decide +kernel
theorem dd_K_takerState_30 : decode mt_K_takerState.2.1 30 = .ok (.iadd, 1) := by decide +kernel
theorem dd_K_takerState_31 : decode mt_K_takerState.2.1 31 = .ok (.istore_n 3, 1) := by decide +kernel
theorem dd_K_takerState_32 : decode mt_K_takerState.2.1 32 = .ok (.iload_n 3, 1) := by decide +kernel
theorem dd_K_takerState_33 : decode mt_K_takerState.2.1 33 = .ok (.aload_n 2, 1) := by decide +kernel
theorem dd_K_takerState_34 : decode mt_K_takerState.2.1 34 = .ok (.getfield 169, 3) := by decide +kernel
theorem dd_K_takerState_37 : decode mt_K_takerState.2.1 37 = .ok (.iconst 3, 1) := by decide +kernel
theorem dd_K_takerState_38 : decode mt_K_takerState.2.1 38 = .ok (.if_icmp .ne 8, 3) := by decide +kernel
theorem dd_K_takerState_41 : decode mt_K_takerState.2.1 41 = .ok (.bipush 8, 2) := by decide +kernel
theorem dd_K_takerState_43 : decode mt_K_takerState.2.1 43 = .ok (.goto 4, 3) := by decide +kernel
theorem dd_K_takerState_46 : decode mt_K_takerState.2.1 46 = .ok (.iconst 0, 1) := by decide +kernel
theorem dd_K_takerState_47 : decode mt_K_takerState.2.1 47 = .ok (.iadd, 1) := by decide +kernel
theorem dd_K_takerState_48 : decode mt_K_takerState.2.1 48 = .ok (.istore_n 3, 1) := by decide +kernel
theorem dd_K_takerState_49 : decode mt_K_takerState.2.1 49 = .ok (.iload_n 3, 1) := by decide +kernel
theorem dd_K_takerState_50 : decode mt_K_takerState.2.1 50 = .ok (.aload_n 2, 1) := by decide +kernel
theorem dd_K_takerState_51 : decode mt_K_takerState.2.1 51 = .ok (.getfield 169, 3) := by decide +kernel
theorem dd_K_takerState_54 : decode mt_K_takerState.2.1 54 = .ok (.iconst 4, 1) := by decide +kernel
theorem dd_K_takerState_55 : decode mt_K_takerState.2.1 55 = .ok (.if_icmp .ne 8, 3) := by decide +kernel
theorem dd_K_takerState_58 : decode mt_K_takerState.2.1 58 = .ok (.bipush 16, 2) := by decide +kernel
theorem dd_K_takerState_60 : decode mt_K_takerState.2.1 60 = .ok (.goto 4, 3) := by decide +kernel
theorem dd_K_takerState_63 : decode mt_K_takerState.2.1 63 = .ok (.iconst 0, 1) := by decide +kernel
theorem dd_K_takerState_64 : decode mt_K_takerState.2.1 64 = .ok (.iadd, 1) := by decide +kernel
theorem dd_K_takerState_65 : decode mt_K_takerState.2.1 65 = .ok (.istore_n 3, 1) := by decide +kernel
theorem dd_K_takerState_66 : decode mt_K_takerState.2.1 66 = .ok (.iload_n 3, 1) := by decide +kernel
theorem dd_K_takerState_67 : decode mt_K_takerState.2.1 67 = .ok (.aload_n 2, 1) := by decide +kernel
theorem dd_K_takerState_68 : decode mt_K_takerState.2.1 68 = .ok (.getfield 169, 3) := by decide +kernel
theorem dd_K_takerState_71 : decode mt_K_takerState.2.1 71 = .ok (.iconst 5, 1) := by decide +kernel
theorem dd_K_takerState_72 : decode mt_K_takerState.2.1 72 = .ok (.if_icmp .ne 8, 3) := by decide +kernel
theorem dd_K_takerState_75 : decode mt_K_takerState.2.1 75 = .ok (.bipush 32, 2) := by decide +kernel
theorem dd_K_takerState_77 : decode mt_K_takerState.2.1 77 = .ok (.goto 4, 3) := by decide +kernel
theorem dd_K_takerState_80 : decode mt_K_takerState.2.1 80 = .ok (.iconst 0, 1) := by decide +kernel
theorem dd_K_takerState_81 : decode mt_K_takerState.2.1 81 = .ok (.iadd, 1) := by decide +kernel
theorem dd_K_takerState_82 : decode mt_K_takerState.2.1 82 = .ok (.istore_n 3, 1) := by decide +kernel
theorem dd_K_takerState_83 : decode mt_K_takerState.2.1 83 = .ok (.iload_n 3, 1) := by decide +kernel
theorem dd_K_takerState_84 : decode mt_K_takerState.2.1 84 = .ok (.aload_n 2, 1) := by decide +kernel
theorem dd_K_takerState_85 : decode mt_K_takerState.2.1 85 = .ok (.getfield 166, 3) := by decide +kernel
theorem dd_K_takerState_88 : decode mt_K_takerState.2.1 88 = .ok (.ifCond .eq 8, 3) := by decide +kernel
theorem dd_K_takerState_91 : decode mt_K_takerState.2.1 91 = .ok (.bipush 64, 2) := by decide +kernel
theorem dd_K_takerState_93 : decode mt_K_takerState.2.1 93 = .ok (.goto 4, 3) := by decide +kernel
theorem dd_K_takerState_96 : decode mt_K_takerState.2.1 96 = .ok (.iconst 0, 1) := by decide +kernel
theorem dd_K_takerState_97 : decode mt_K_takerState.2.1 97 = .ok (.iadd, 1) := by decide +kernel
theorem dd_K_takerState_98 : decode mt_K_takerState.2.1 98 = .ok (.istore_n 3, 1) := by decide +kernel
theorem dd_K_takerState_99 : decode mt_K_takerState.2.1 99 = .ok (.iload_n 3, 1) := by decide +kernel
theorem dd_K_takerState_100 : decode mt_K_takerState.2.1 100 = .ok (.aload_n 2, 1) := by decide +kernel
theorem dd_K_takerState_101 : decode mt_K_takerState.2.1 101 = .ok (.getfield 152, 3) := by decide +kernel
theorem dd_K_takerState_104 : decode mt_K_takerState.2.1 104 = .ok (.ifCond .eq 9, 3) := by decide +kernel
theorem dd_K_takerState_107 : decode mt_K_takerState.2.1 107 = .ok (.sipush 128, 3) := by decide +kernel
theorem dd_K_takerState_110 : decode mt_K_takerState.2.1 110 = .ok (.goto 4, 3) := by decide +kernel
theorem dd_K_takerState_113 : decode mt_K_takerState.2.1 113 = .ok (.iconst 0, 1) := by decide +kernel
theorem dd_K_takerState_114 : decode mt_K_takerState.2.1 114 = .ok (.iadd, 1) := by decide +kernel
theorem dd_K_takerState_115 : decode mt_K_takerState.2.1 115 = .ok (.istore_n 3, 1) := by decide +kernel
theorem dd_K_takerState_116 : decode mt_K_takerState.2.1 116 = .ok (.iload_n 3, 1) := by decide +kernel
theorem dd_K_takerState_117 : decode mt_K_takerState.2.1 117 = .ok (.ireturn, 1) := by decide +kernel
theorem dd_K_takerRoom_0 : decode mt_K_takerRoom.2.1 0 = .ok (.aload_n 0, 1) := by decide +kernel
theorem dd_K_takerRoom_1 : decode mt_K_takerRoom.2.1 1 = .ok (.iload_n 1, 1) := by decide +kernel
theorem dd_K_takerRoom_2 : decode mt_K_takerRoom.2.1 2 = .ok (.invokevirtual 148, 3) := by decide +kernel
theorem dd_K_takerRoom_5 : decode mt_K_takerRoom.2.1 5 = .ok (.astore_n 2, 1) := by decide +kernel
theorem dd_K_takerRoom_6 : decode mt_K_takerRoom.2.1 6 = .ok (.aload_n 2, 1) := by decide +kernel
theorem dd_K_takerRoom_7 : decode mt_K_takerRoom.2.1 7 = .ok (.ifnonnull 7, 3) := by decide +kernel
theorem dd_K_takerRoom_10 : decode mt_K_takerRoom.2.1 10 = .ok (.sipush (-1000), 3) := by decide +kernel
theorem dd_K_takerRoom_13 : decode mt_K_takerRoom.2.1 13 = .ok (.ireturn, 1) := by decide +kernel
theorem dd_K_takerRoom_14 : decode mt_K_takerRoom.2.1 14 = .ok (.aload_n 2, 1) := by decide +kernel
theorem dd_K_takerRoom_15 : decode mt_K_takerRoom.2.1 15 = .ok (.getfield 176, 3) := by decide +kernel
theorem dd_K_takerRoom_18 : decode mt_K_takerRoom.2.1 18 = .ok (.ifCond .ne 13, 3) := by decide +kernel
theorem dd_K_takerRoom_21 : decode mt_K_takerRoom.2.1 21 = .ok (.aload_n 2, 1) := by decide +kernel
theorem dd_K_takerRoom_22 : decode mt_K_takerRoom.2.1 22 = .ok (.getfield 155, 3) := by decide +kernel
theorem dd_K_takerRoom_25 : decode mt_K_takerRoom.2.1 25 = .ok (.getfield 221, 3) := by decide +kernel
theorem dd_K_takerRoom_28 : decode mt_K_takerRoom.2.1 28 = .ok (.goto 4, 3) := by decide +kernel
theorem dd_K_takerRoom_31 : decode mt_K_takerRoom.2.1 31 = .ok (.iconst 0, 1) := by decide +kernel
theorem dd_K_takerRoom_32 : decode mt_K_takerRoom.2.1 32 = .ok (.ireturn, 1) := by decide +kernel
theorem dd_K_takerQueue_0 : decode mt_K_takerQueue.2.1 0 = .ok (.aload_n 0, 1) := by decide +kernel
theorem dd_K_takerQueue_1 : decode mt_K_takerQueue.2.1 1 = .ok (.iload_n 1, 1) := by decide +kernel
theorem dd_K_takerQueue_2 : decode mt_K_takerQueue.2.1 2 = .ok (.invokevirtual 148, 3) := by decide +kernel
theorem dd_K_takerQueue_5 : decode mt_K_takerQueue.2.1 5 = .ok (.astore_n 2, 1) := by decide +kernel
theorem dd_K_takerQueue_6 : decode mt_K_takerQueue.2.1 6 = .ok (.aload_n 2, 1) := by decide +kernel
theorem dd_K_takerQueue_7 : decode mt_K_takerQueue.2.1 7 = .ok (.ifnonnull 7, 3) := by decide +kernel
theorem dd_K_takerQueue_10 : decode mt_K_takerQueue.2.1 10 = .ok (.iconst (-1), 1) := by decide +kernel
theorem dd_K_takerQueue_11 : decode mt_K_takerQueue.2.1 11 = .ok (.goto 10, 3) := by decide +kernel
theorem dd_K_takerQueue_14 : decode mt_K_takerQueue.2.1 14 = .ok (.aload_n 2, 1) := by decide +kernel
theorem dd_K_takerQueue_15 : decode mt_K_takerQueue.2.1 15 = .ok (.getfield 155, 3) := by decide +kernel
theorem dd_K_takerQueue_18 : decode mt_K_takerQueue.2.1 18 = .ok (.invokevirtual 87, 3) := by decide +kernel
theorem dd_K_takerQueue_21 : decode mt_K_takerQueue.2.1 21 = .ok (.ireturn, 1) := by decide +kernel
theorem dd_K_takerError_0 : decode mt_K_takerError.2.1 0 = .ok (.aload_n 0, 1) := by decide +kernel
theorem dd_K_takerError_1 : decode mt_K_takerError.2.1 1 = .ok (.ifnull 17, 3) := by decide +kernel
theorem dd_K_takerError_4 : decode mt_K_takerError.2.1 4 = .ok (.aload_n 0, 1) := by decide +kernel
theorem dd_K_takerError_5 : decode mt_K_takerError.2.1 5 = .ok (.invokevirtual 240, 3) := by decide +kernel
theorem dd_K_takerError_8 : decode mt_K_takerError.2.1 8 = .ok (.ifCond .eq 10, 3) := by decide +kernel
theorem dd_K_takerError_11 : decode mt_K_takerError.2.1 11 = .ok (.aload_n 0, 1) := by decide +kernel
theorem dd_K_takerError_12 : decode mt_K_takerError.2.1 12 = .ok (.getfield 243, 3) := by decide +kernel
theorem dd_K_takerError_15 : decode mt_K_takerError.2.1 15 = .ok (.goto 4, 3) := by decide +kernel
theorem dd_K_takerError_18 : decode mt_K_takerError.2.1 18 = .ok (.iconst (-1), 1) := by decide +kernel
theorem dd_K_takerError_19 : decode mt_K_takerError.2.1 19 = .ok (.ireturn, 1) := by decide +kernel
theorem dd_K_giverError_0 : decode mt_K_giverError.2.1 0 = .ok (.aload_n 0, 1) := by decide +kernel
theorem dd_K_giverError_1 : decode mt_K_giverError.2.1 1 = .ok (.ifnull 18, 3) := by decide +kernel
theorem dd_K_giverError_4 : decode mt_K_giverError.2.1 4 = .ok (.aload_n 0, 1) := by decide +kernel
theorem dd_K_giverError_5 : decode mt_K_giverError.2.1 5 = .ok (.getfield 110, 3) := by decide +kernel
theorem dd_K_giverError_8 : decode mt_K_giverError.2.1 8 = .ok (.iconst 2, 1) := by decide +kernel
theorem dd_K_giverError_9 : decode mt_K_giverError.2.1 9 = .ok (.if_icmp .ne 10, 3) := by decide +kernel
theorem dd_K_giverError_12 : decode mt_K_giverError.2.1 12 = .ok (.aload_n 0, 1) := by decide +kernel
theorem dd_K_giverError_13 : decode mt_K_giverError.2.1 13 = .ok (.getfield 207, 3) := by decide +kernel
theorem dd_K_giverError_16 : decode mt_K_giverError.2.1 16 = .ok (.goto 4, 3) := by decide +kernel
theorem dd_K_giverError_19 : decode mt_K_giverError.2.1 19 = .ok (.iconst (-1), 1) := by decide +kernel
theorem dd_K_giverError_20 : decode mt_K_giverError.2.1 20 = .ok (.ireturn, 1) := by decide +kernel
theorem dd_K_error_0 : decode mt_K_error.2.1 0 = .ok (.iload_n 1, 1) := by decide +kernel
theorem dd_K_error_1 : decode mt_K_error.2.1 1 = .ok (.ifCond .eq 14, 3) := by decide +kernel
theorem dd_K_error_4 : decode mt_K_error.2.1 4 = .ok (.aload_n 0, 1) := by decide +kernel
theorem dd_K_error_5 : decode mt_K_error.2.1 5 = .ok (.iload_n 2, 1) := by decide +kernel
theorem dd_K_error_6 : decode mt_K_error.2.1 6 = .ok (.invokevirtual 148, 3) := by decide +kernel
theorem dd_K_error_9 : decode mt_K_error.2.1 9 = .ok (.invokestatic 227, 3) := by decide +kernel
theorem dd_K_error_12 : decode mt_K_error.2.1 12 = .ok (.goto 11, 3) := by decide +kernel
theorem dd_K_error_15 : decode mt_K_error.2.1 15 = .ok (.aload_n 0, 1) := by decide +kernel
theorem dd_K_error_16 : decode mt_K_error.2.1 16 = .ok (.iload_n 2, 1) := by decide +kernel
theorem dd_K_error_17 : decode mt_K_error.2.1 17 = .ok (.invokevirtual 133, 3) := by decide +kernel
theorem dd_K_error_20 : decode mt_K_error.2.1 20 = .ok (.invokestatic 231, 3) := by decide +kernel
theorem dd_K_error_23 : decode mt_K_error.2.1 23 = .ok (.ireturn, 1) := by decide +kernel
theorem dd_K_events_0 : decode mt_K_events.2.1 0 = .ok (.aload_n 0, 1) := by decide +kernel
theorem dd_K_events_1 : decode mt_K_events.2.1 1 = .ok (.getfield 12, 3) := by decide +kernel
theorem dd_K_events_4 : decode mt_K_events.2.1 4 = .ok (.getfield 235, 3) := by decide +kernel
theorem dd_K_events_7 : decode mt_K_events.2.1 7 = .ok (.ireturn, 1) := by decide +kernel
theorem dd_K_event_0 : decode mt_K_event.2.1 0 = .ok (.aload_n 0, 1) := by decide +kernel
theorem dd_K_event_1 : decode mt_K_event.2.1 1 = .ok (.getfield 12, 3) := by decide +kernel
theorem dd_K_event_4 : decode mt_K_event.2.1 4 = .ok (.iload_n 1, 1) := by decide +kernel
theorem dd_K_event_5 : decode mt_K_event.2.1 5 = .ok (.iload_n 2, 1) := by decide +kernel
theorem dd_K_event_6 : decode mt_K_event.2.1 6 = .ok (.invokevirtual 236, 3) := by decide +kernel
theorem dd_K_event_9 : decode mt_K_event.2.1 9 = .ok (.ireturn, 1) := by decide +kernel
