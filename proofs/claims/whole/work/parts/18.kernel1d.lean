theorem dd_K_read_0 : decode mt_K_read.2.1 0 = .ok (.aload_n 0, 1) := by decide +kernel
theorem dd_K_read_1 : decode mt_K_read.2.1 1 = .ok (.iload_n 1, 1) := by decide +kernel
theorem dd_K_read_2 : decode mt_K_read.2.1 2 = .ok (.invokevirtual 133, 3) := by decide +kernel
theorem dd_K_read_5 : decode mt_K_read.2.1 5 = .ok (.astore_n 2, 1) := by decide +kernel
theorem dd_K_read_6 : decode mt_K_read.2.1 6 = .ok (.aload_n 2, 1) := by decide +kernel
theorem dd_K_read_7 : decode mt_K_read.2.1 7 = .ok (.ifnonnull 5, 3) := by decide +kernel
theorem dd_K_read_10 : decode mt_K_read.2.1 10 = .ok (.iconst (-1), 1) := by decide +kernel
theorem dd_K_read_11 : decode mt_K_read.2.1 11 = .ok (.ireturn, 1) := by decide +kernel
theorem dd_K_read_12 : decode mt_K_read.2.1 12 = .ok (.aload_n 2, 1) := by decide +kernel
theorem dd_K_read_13 : decode mt_K_read.2.1 13 = .ok (.invokevirtual 136, 3) := by decide +kernel
theorem dd_K_read_16 : decode mt_K_read.2.1 16 = .ok (.ifCond .eq 6, 3) := by decide +kernel
theorem dd_K_read_19 : decode mt_K_read.2.1 19 = .ok (.bipush (-2), 2) := by decide +kernel
theorem dd_K_read_21 : decode mt_K_read.2.1 21 = .ok (.ireturn, 1) := by decide +kernel
theorem dd_K_read_22 : decode mt_K_read.2.1 22 = .ok (.aload_n 2, 1) := by decide +kernel
theorem dd_K_read_23 : decode mt_K_read.2.1 23 = .ok (.getfield 91, 3) := by decide +kernel
theorem dd_K_read_26 : decode mt_K_read.2.1 26 = .ok (.getfield 95, 3) := by decide +kernel
theorem dd_K_read_29 : decode mt_K_read.2.1 29 = .ok (.bipush 8, 2) := by decide +kernel
theorem dd_K_read_31 : decode mt_K_read.2.1 31 = .ok (.if_icmp .lt 6, 3) := by decide +kernel
theorem dd_K_read_34 : decode mt_K_read.2.1 34 = .ok (.bipush (-3), 2) := by decide +kernel
theorem dd_K_read_36 : decode mt_K_read.2.1 36 = .ok (.ireturn, 1) := by decide +kernel
theorem dd_K_read_37 : decode mt_K_read.2.1 37 = .ok (.aload_n 2, 1) := by decide +kernel
theorem dd_K_read_38 : decode mt_K_read.2.1 38 = .ok (.dup, 1) := by decide +kernel
theorem dd_K_read_39 : decode mt_K_read.2.1 39 = .ok (.getfield 139, 3) := by decide +kernel
theorem dd_K_read_42 : decode mt_K_read.2.1 42 = .ok (.iconst 1, 1) := by decide +kernel
theorem dd_K_read_43 : decode mt_K_read.2.1 43 = .ok (.iadd, 1) := by decide +kernel
theorem dd_K_read_44 : decode mt_K_read.2.1 44 = .ok (.putfield 139, 3) := by decide +kernel
theorem dd_K_read_47 : decode mt_K_read.2.1 47 = .ok (.aload_n 2, 1) := by decide +kernel
theorem dd_K_read_48 : decode mt_K_read.2.1 48 = .ok (.getfield 139, 3) := by decide +kernel
theorem dd_K_read_51 : decode mt_K_read.2.1 51 = .ok (.istore_n 3, 1) := by decide +kernel
theorem dd_K_read_52 : decode mt_K_read.2.1 52 = .ok (.aload_n 0, 1) := by decide +kernel
theorem dd_K_read_53 : decode mt_K_read.2.1 53 = .ok (.aload_n 2, 1) := by decide +kernel
theorem dd_K_read_54 : decode mt_K_read.2.1 54 = .ok (.iload_n 3, 1) := by decide +kernel
theorem dd_K_read_55 : decode mt_K_read.2.1 55 = .ok (.invokevirtual 142, 3) := by decide +kernel
theorem dd_K_read_58 : decode mt_K_read.2.1 58 = .ok (.aload_n 0, 1) := by decide +kernel
theorem dd_K_read_59 : decode mt_K_read.2.1 59 = .ok (.invokevirtual 57, 3) := by decide +kernel
theorem dd_K_read_62 : decode mt_K_read.2.1 62 = .ok (.iload_n 3, 1) := by decide +kernel
theorem dd_K_read_63 : decode mt_K_read.2.1 63 = .ok (.ireturn, 1) := by decide +kernel
theorem dd_K_cancelGiver_0 : decode mt_K_cancelGiver.2.1 0 = .ok (.aload_n 1, 1) := by decide +kernel
theorem dd_K_cancelGiver_1 : decode mt_K_cancelGiver.2.1 1 = .ok (.getfield 110, 3) := by decide +kernel
theorem dd_K_cancelGiver_4 : decode mt_K_cancelGiver.2.1 4 = .ok (.ifCond .eq 4, 3) := by decide +kernel
theorem dd_K_cancelGiver_7 : decode mt_K_cancelGiver.2.1 7 = .ok (.return_, 1) := by decide +kernel
theorem dd_K_cancelGiver_8 : decode mt_K_cancelGiver.2.1 8 = .ok (.aload_n 1, 1) := by decide +kernel
theorem dd_K_cancelGiver_9 : decode mt_K_cancelGiver.2.1 9 = .ok (.getfield 83, 3) := by decide +kernel
theorem dd_K_cancelGiver_12 : decode mt_K_cancelGiver.2.1 12 = .ok (.invokevirtual 291, 3) := by decide +kernel
theorem dd_K_cancelGiver_15 : decode mt_K_cancelGiver.2.1 15 = .ok (.aload_n 0, 1) := by decide +kernel
theorem dd_K_cancelGiver_16 : decode mt_K_cancelGiver.2.1 16 = .ok (.aload_n 1, 1) := by decide +kernel
theorem dd_K_cancelGiver_17 : decode mt_K_cancelGiver.2.1 17 = .ok (.invokevirtual 107, 3) := by decide +kernel
theorem dd_K_cancelGiver_20 : decode mt_K_cancelGiver.2.1 20 = .ok (.aload_n 1, 1) := by decide +kernel
theorem dd_K_cancelGiver_21 : decode mt_K_cancelGiver.2.1 21 = .ok (.getfield 191, 3) := by decide +kernel
theorem dd_K_cancelGiver_24 : decode mt_K_cancelGiver.2.1 24 = .ok (.astore_n 3, 1) := by decide +kernel
theorem dd_K_cancelGiver_25 : decode mt_K_cancelGiver.2.1 25 = .ok (.aload_n 3, 1) := by decide +kernel
theorem dd_K_cancelGiver_26 : decode mt_K_cancelGiver.2.1 26 = .ok (.ifnonnull 18, 3) := by decide +kernel
theorem dd_K_cancelGiver_29 : decode mt_K_cancelGiver.2.1 29 = .ok (.aload_n 0, 1) := by decide +kernel
theorem dd_K_cancelGiver_30 : decode mt_K_cancelGiver.2.1 30 = .ok (.getfield 12, 3) := by decide +kernel
theorem dd_K_cancelGiver_33 : decode mt_K_cancelGiver.2.1 33 = .ok (.iconst 2, 1) := by decide +kernel
theorem dd_K_cancelGiver_34 : decode mt_K_cancelGiver.2.1 34 = .ok (.aload_n 1, 1) := by decide +kernel
theorem dd_K_cancelGiver_35 : decode mt_K_cancelGiver.2.1 35 = .ok (.getfield 60, 3) := by decide +kernel
theorem dd_K_cancelGiver_38 : decode mt_K_cancelGiver.2.1 38 = .ok (.iload_n 2, 1) := by decide +kernel
theorem dd_K_cancelGiver_39 : decode mt_K_cancelGiver.2.1 39 = .ok (.iconst 0, 1) := by decide +kernel
theorem dd_K_cancelGiver_40 : decode mt_K_cancelGiver.2.1 40 = .ok (.invokevirtual 254, 3) := by decide +kernel
theorem dd_K_cancelGiver_43 : decode mt_K_cancelGiver.2.1 43 = .ok (.return_, 1) := by decide +kernel
theorem dd_K_cancelGiver_44 : decode mt_K_cancelGiver.2.1 44 = .ok (.aload_n 1, 1) := by decide +kernel
theorem dd_K_cancelGiver_45 : decode mt_K_cancelGiver.2.1 45 = .ok (.iconst 1, 1) := by decide +kernel
theorem dd_K_cancelGiver_46 : decode mt_K_cancelGiver.2.1 46 = .ok (.putfield 294, 3) := by decide +kernel
theorem dd_K_cancelGiver_49 : decode mt_K_cancelGiver.2.1 49 = .ok (.aload_n 3, 1) := by decide +kernel
theorem dd_K_cancelGiver_50 : decode mt_K_cancelGiver.2.1 50 = .ok (.getfield 281, 3) := by decide +kernel
theorem dd_K_cancelGiver_53 : decode mt_K_cancelGiver.2.1 53 = .ok (.astore 4, 2) := by decide +kernel
theorem dd_K_cancelGiver_55 : decode mt_K_cancelGiver.2.1 55 = .ok (.aload_n 3, 1) := by decide +kernel
theorem dd_K_cancelGiver_56 : decode mt_K_cancelGiver.2.1 56 = .ok (.invokevirtual 297, 3) := by decide +kernel
theorem dd_K_cancelGiver_59 : decode mt_K_cancelGiver.2.1 59 = .ok (.ifCond .eq 40, 3) := by decide +kernel
theorem dd_K_cancelGiver_62 : decode mt_K_cancelGiver.2.1 62 = .ok (.aload 4, 2) := by decide +kernel
theorem dd_K_cancelGiver_64 : decode mt_K_cancelGiver.2.1 64 = .ok (.getfield 110, 3) := by decide +kernel
theorem dd_K_cancelGiver_67 : decode mt_K_cancelGiver.2.1 67 = .ok (.ifCond .ne 32, 3) := by decide +kernel
theorem dd_K_cancelGiver_70 : decode mt_K_cancelGiver.2.1 70 = .ok (.aload 4, 2) := by decide +kernel
theorem dd_K_cancelGiver_72 : decode mt_K_cancelGiver.2.1 72 = .ok (.getfield 83, 3) := by decide +kernel
theorem dd_K_cancelGiver_75 : decode mt_K_cancelGiver.2.1 75 = .ok (.invokevirtual 291, 3) := by decide +kernel
theorem dd_K_cancelGiver_78 : decode mt_K_cancelGiver.2.1 78 = .ok (.aload_n 0, 1) := by decide +kernel
theorem dd_K_cancelGiver_79 : decode mt_K_cancelGiver.2.1 79 = .ok (.aload 4, 2) := by decide +kernel
theorem dd_K_cancelGiver_81 : decode mt_K_cancelGiver.2.1 81 = .ok (.invokevirtual 107, 3) := by decide +kernel
theorem dd_K_cancelGiver_84 : decode mt_K_cancelGiver.2.1 84 = .ok (.aload_n 0, 1) := by decide +kernel
theorem dd_K_cancelGiver_85 : decode mt_K_cancelGiver.2.1 85 = .ok (.getfield 12, 3) := by decide +kernel
theorem dd_K_cancelGiver_88 : decode mt_K_cancelGiver.2.1 88 = .ok (.iconst 2, 1) := by decide +kernel
theorem dd_K_cancelGiver_89 : decode mt_K_cancelGiver.2.1 89 = .ok (.aload 4, 2) := by decide +kernel
theorem dd_K_cancelGiver_91 : decode mt_K_cancelGiver.2.1 91 = .ok (.getfield 60, 3) := by decide +kernel
theorem dd_K_cancelGiver_94 : decode mt_K_cancelGiver.2.1 94 = .ok (.iload_n 2, 1) := by decide +kernel
theorem dd_K_cancelGiver_95 : decode mt_K_cancelGiver.2.1 95 = .ok (.iconst 0, 1) := by decide +kernel
theorem dd_K_cancelGiver_96 : decode mt_K_cancelGiver.2.1 96 = .ok (.invokevirtual 254, 3) := by decide +kernel
theorem dd_K_cancelGiver_99 : decode mt_K_cancelGiver.2.1 99 = .ok (.return_, 1) := by decide +kernel
theorem dd_K_cancel_0 : decode mt_K_cancel.2.1 0 = .ok (.aload_n 0, 1) := by decide +kernel
theorem dd_K_cancel_1 : decode mt_K_cancel.2.1 1 = .ok (.iload_n 1, 1) := by decide +kernel
theorem dd_K_cancel_2 : decode mt_K_cancel.2.1 2 = .ok (.invokevirtual 133, 3) := by decide +kernel
theorem dd_K_cancel_5 : decode mt_K_cancel.2.1 5 = .ok (.astore_n 3, 1) := by decide +kernel
theorem dd_K_cancel_6 : decode mt_K_cancel.2.1 6 = .ok (.aload_n 3, 1) := by decide +kernel
theorem dd_K_cancel_7 : decode mt_K_cancel.2.1 7 = .ok (.ifnull 17, 3) := by decide +kernel
theorem dd_K_cancel_10 : decode mt_K_cancel.2.1 10 = .ok (.aload_n 3, 1) := by decide +kernel
theorem dd_K_cancel_11 : decode mt_K_cancel.2.1 11 = .ok (.invokevirtual 136, 3) := by decide +kernel
theorem dd_K_cancel_14 : decode mt_K_cancel.2.1 14 = .ok (.ifCond .ne 10, 3) := by decide +kernel
theorem dd_K_cancel_17 : decode mt_K_cancel.2.1 17 = .ok (.iload_n 2, 1) := by decide +kernel
theorem dd_K_cancel_18 : decode mt_K_cancel.2.1 18 = .ok (.invokestatic 113, 3) := by decide +kernel
theorem dd_K_cancel_21 : decode mt_K_cancel.2.1 21 = .ok (.ifCond .ne 5, 3) := by decide +kernel
theorem dd_K_cancel_24 : decode mt_K_cancel.2.1 24 = .ok (.iconst 0, 1) := by decide +kernel
theorem dd_K_cancel_25 : decode mt_K_cancel.2.1 25 = .ok (.ireturn, 1) := by decide +kernel
theorem dd_K_cancel_26 : decode mt_K_cancel.2.1 26 = .ok (.aload_n 0, 1) := by decide +kernel
theorem dd_K_cancel_27 : decode mt_K_cancel.2.1 27 = .ok (.aload_n 3, 1) := by decide +kernel
theorem dd_K_cancel_28 : decode mt_K_cancel.2.1 28 = .ok (.iload_n 2, 1) := by decide +kernel
theorem dd_K_cancel_29 : decode mt_K_cancel.2.1 29 = .ok (.invokevirtual 145, 3) := by decide +kernel
theorem dd_K_cancel_32 : decode mt_K_cancel.2.1 32 = .ok (.aload_n 0, 1) := by decide +kernel
theorem dd_K_cancel_33 : decode mt_K_cancel.2.1 33 = .ok (.invokevirtual 57, 3) := by decide +kernel
theorem dd_K_cancel_36 : decode mt_K_cancel.2.1 36 = .ok (.iconst 1, 1) := by decide +kernel
theorem dd_K_cancel_37 : decode mt_K_cancel.2.1 37 = .ok (.ireturn, 1) := by decide +kernel
theorem dd_K_takerAt_0 : decode mt_K_takerAt.2.1 0 = .ok (.iload_n 1, 1) := by decide +kernel
theorem dd_K_takerAt_1 : decode mt_K_takerAt.2.1 1 = .ok (.ifCond .lt 20, 3) := by decide +kernel
theorem dd_K_takerAt_4 : decode mt_K_takerAt.2.1 4 = .ok (.iload_n 1, 1) := by decide +kernel
theorem dd_K_takerAt_5 : decode mt_K_takerAt.2.1 5 = .ok (.aload_n 0, 1) := by decide +kernel
theorem dd_K_takerAt_6 : decode mt_K_takerAt.2.1 6 = .ok (.getfield 63, 3) := by decide +kernel
theorem dd_K_takerAt_9 : decode mt_K_takerAt.2.1 9 = .ok (.if_icmp .ge 12, 3) := by decide +kernel
theorem dd_K_takerAt_12 : decode mt_K_takerAt.2.1 12 = .ok (.aload_n 0, 1) := by decide +kernel
theorem dd_K_takerAt_13 : decode mt_K_takerAt.2.1 13 = .ok (.getfield 31, 3) := by decide +kernel
theorem dd_K_takerAt_16 : decode mt_K_takerAt.2.1 16 = .ok (.iload_n 1, 1) := by decide +kernel
theorem dd_K_takerAt_17 : decode mt_K_takerAt.2.1 17 = .ok (.aaload, 1) := by decide +kernel
theorem dd_K_takerAt_18 : decode mt_K_takerAt.2.1 18 = .ok (.goto 4, 3) := by decide +kernel
theorem dd_K_takerAt_21 : decode mt_K_takerAt.2.1 21 = .ok (.aconst_null, 1) := by decide +kernel
theorem dd_K_takerAt_22 : decode mt_K_takerAt.2.1 22 = .ok (.areturn, 1) := by decide +kernel
theorem dd_K_write_0 : decode mt_K_write.2.1 0 = .ok (.aload_n 0, 1) := by decide +kernel
theorem dd_K_write_1 : decode mt_K_write.2.1 1 = .ok (.iload_n 1, 1) := by decide +kernel
theorem dd_K_write_2 : decode mt_K_write.2.1 2 = .ok (.invokevirtual 148, 3) := by decide +kernel
theorem dd_K_write_5 : decode mt_K_write.2.1 5 = .ok (.astore_n 3, 1) := by decide +kernel
theorem dd_K_write_6 : decode mt_K_write.2.1 6 = .ok (.aload_n 3, 1) := by decide +kernel
theorem dd_K_write_7 : decode mt_K_write.2.1 7 = .ok (.ifnonnull 5, 3) := by decide +kernel
theorem dd_K_write_10 : decode mt_K_write.2.1 10 = .ok (.iconst (-1), 1) := by decide +kernel
theorem dd_K_write_11 : decode mt_K_write.2.1 11 = .ok (.ireturn, 1) := by decide +kernel
theorem dd_K_write_12 : decode mt_K_write.2.1 12 = .ok (.aload_n 3, 1) := by decide +kernel
theorem dd_K_write_13 : decode mt_K_write.2.1 13 = .ok (.getfield 152, 3) := by decide +kernel
theorem dd_K_write_16 : decode mt_K_write.2.1 16 = .ok (.ifCond .eq 6, 3) := by decide +kernel
theorem dd_K_write_19 : decode mt_K_write.2.1 19 = .ok (.bipush (-2), 2) := by decide +kernel
theorem dd_K_write_21 : decode mt_K_write.2.1 21 = .ok (.ireturn, 1) := by decide +kernel
theorem dd_K_write_22 : decode mt_K_write.2.1 22 = .ok (.aload_n 3, 1) := by decide +kernel
theorem dd_K_write_23 : decode mt_K_write.2.1 23 = .ok (.getfield 155, 3) := by decide +kernel
theorem dd_K_write_26 : decode mt_K_write.2.1 26 = .ok (.invokevirtual 87, 3) := by decide +kernel
theorem dd_K_write_29 : decode mt_K_write.2.1 29 = .ok (.bipush 16, 2) := by decide +kernel
theorem dd_K_write_31 : decode mt_K_write.2.1 31 = .ok (.if_icmp .lt 6, 3) := by decide +kernel
theorem dd_K_write_34 : decode mt_K_write.2.1 34 = .ok (.bipush (-3), 2) := by decide +kernel
theorem dd_K_write_36 : decode mt_K_write.2.1 36 = .ok (.ireturn, 1) := by decide +kernel
theorem dd_K_write_37 : decode mt_K_write.2.1 37 = .ok (.aload_n 3, 1) := by decide +kernel
theorem dd_K_write_38 : decode mt_K_write.2.1 38 = .ok (.iload_n 2, 1) := by decide +kernel
theorem dd_K_write_39 : decode mt_K_write.2.1 39 = .ok (.invokevirtual 156, 3) := by decide +kernel
theorem dd_K_write_42 : decode mt_K_write.2.1 42 = .ok (.istore 4, 2) := by decide +kernel
theorem dd_K_write_44 : decode mt_K_write.2.1 44 = .ok (.aload_n 0, 1) := by decide +kernel
theorem dd_K_write_45 : decode mt_K_write.2.1 45 = .ok (.invokevirtual 57, 3) := by decide +kernel
theorem dd_K_write_48 : decode mt_K_write.2.1 48 = .ok (.iload 4, 2) := by decide +kernel
theorem dd_K_write_50 : decode mt_K_write.2.1 50 = .ok (.ireturn, 1) := by decide +kernel
theorem dd_K_shut_0 : decode mt_K_shut.2.1 0 = .ok (.aload_n 0, 1) := by decide +kernel
theorem dd_K_shut_1 : decode mt_K_shut.2.1 1 = .ok (.iload_n 1, 1) := by decide +kernel
theorem dd_K_shut_2 : decode mt_K_shut.2.1 2 = .ok (.invokevirtual 148, 3) := by decide +kernel
theorem dd_K_shut_5 : decode mt_K_shut.2.1 5 = .ok (.astore_n 2, 1) := by decide +kernel
theorem dd_K_shut_6 : decode mt_K_shut.2.1 6 = .ok (.aload_n 2, 1) := by decide +kernel
theorem dd_K_shut_7 : decode mt_K_shut.2.1 7 = .ok (.ifnull 17, 3) := by decide +kernel
theorem dd_K_shut_10 : decode mt_K_shut.2.1 10 = .ok (.aload_n 2, 1) := by decide +kernel
theorem dd_K_shut_11 : decode mt_K_shut.2.1 11 = .ok (.getfield 152, 3) := by decide +kernel
theorem dd_K_shut_14 : decode mt_K_shut.2.1 14 = .ok (.ifCond .ne 10, 3) := by decide +kernel
theorem dd_K_shut_17 : decode mt_K_shut.2.1 17 = .ok (.aload_n 2, 1) := by decide +kernel
theorem dd_K_shut_18 : decode mt_K_shut.2.1 18 = .ok (.invokevirtual 160, 3) := by decide +kernel
theorem dd_K_shut_21 : decode mt_K_shut.2.1 21 = .ok (.ifCond .ne 5, 3) := by decide +kernel
theorem dd_K_shut_24 : decode mt_K_shut.2.1 24 = .ok (.iconst 0, 1) := by decide +kernel
theorem dd_K_shut_25 : decode mt_K_shut.2.1 25 = .ok (.ireturn, 1) := by decide +kernel
theorem dd_K_shut_26 : decode mt_K_shut.2.1 26 = .ok (.aload_n 2, 1) := by decide +kernel
theorem dd_K_shut_27 : decode mt_K_shut.2.1 27 = .ok (.invokevirtual 163, 3) := by decide +kernel
theorem dd_K_shut_30 : decode mt_K_shut.2.1 30 = .ok (.aload_n 0, 1) := by decide +kernel
theorem dd_K_shut_31 : decode mt_K_shut.2.1 31 = .ok (.invokevirtual 57, 3) := by decide +kernel
theorem dd_K_shut_34 : decode mt_K_shut.2.1 34 = .ok (.iconst 1, 1) := by decide +kernel
theorem dd_K_shut_35 : decode mt_K_shut.2.1 35 = .ok (.ireturn, 1) := by decide +kernel
theorem dd_K_abort_0 : decode mt_K_abort.2.1 0 = .ok (.aload_n 0, 1) := by decide +kernel
theorem dd_K_abort_1 : decode mt_K_abort.2.1 1 = .ok (.iload_n 1, 1) := by decide +kernel
theorem dd_K_abort_2 : decode mt_K_abort.2.1 2 = .ok (.invokevirtual 148, 3) := by decide +kernel
theorem dd_K_abort_5 : decode mt_K_abort.2.1 5 = .ok (.astore_n 3, 1) := by decide +kernel
theorem dd_K_abort_6 : decode mt_K_abort.2.1 6 = .ok (.aload_n 3, 1) := by decide +kernel
theorem dd_K_abort_7 : decode mt_K_abort.2.1 7 = .ok (.ifnull 17, 3) := by decide +kernel
theorem dd_K_abort_10 : decode mt_K_abort.2.1 10 = .ok (.aload_n 3, 1) := by decide +kernel
theorem dd_K_abort_11 : decode mt_K_abort.2.1 11 = .ok (.getfield 152, 3) := by decide +kernel
theorem dd_K_abort_14 : decode mt_K_abort.2.1 14 = .ok (.ifCond .ne 10, 3) := by decide +kernel
theorem dd_K_abort_17 : decode mt_K_abort.2.1 17 = .ok (.iload_n 2, 1) := by decide +kernel
theorem dd_K_abort_18 : decode mt_K_abort.2.1 18 = .ok (.invokestatic 113, 3) := by decide +kernel
theorem dd_K_abort_21 : decode mt_K_abort.2.1 21 = .ok (.ifCond .ne 5, 3) := by decide +kernel
theorem dd_K_abort_24 : decode mt_K_abort.2.1 24 = .ok (.iconst 0, 1) := by decide +kernel
theorem dd_K_abort_25 : decode mt_K_abort.2.1 25 = .ok (.ireturn, 1) := by decide +kernel
theorem dd_K_abort_26 : decode mt_K_abort.2.1 26 = .ok (.aload_n 3, 1) := by decide +kernel
theorem dd_K_abort_27 : decode mt_K_abort.2.1 27 = .ok (.getfield 166, 3) := by decide +kernel
theorem dd_K_abort_30 : decode mt_K_abort.2.1 30 = .ok (.ifCond .ne 11, 3) := by decide +kernel
theorem dd_K_abort_33 : decode mt_K_abort.2.1 33 = .ok (.aload_n 3, 1) := by decide +kernel
theorem dd_K_abort_34 : decode mt_K_abort.2.1 34 = .ok (.getfield 169, 3) := by decide +kernel
theorem dd_K_abort_37 : decode mt_K_abort.2.1 37 = .ok (.iconst 5, 1) := by decide +kernel
theorem dd_K_abort_38 : decode mt_K_abort.2.1 38 = .ok (.if_icmp .ne 5, 3) := by decide +kernel
theorem dd_K_abort_41 : decode mt_K_abort.2.1 41 = .ok (.iconst 0, 1) := by decide +kernel
theorem dd_K_abort_42 : decode mt_K_abort.2.1 42 = .ok (.ireturn, 1) := by decide +kernel
theorem dd_K_abort_43 : decode mt_K_abort.2.1 43 = .ok (.aload_n 3, 1) := by decide +kernel
theorem dd_K_abort_44 : decode mt_K_abort.2.1 44 = .ok (.iload_n 2, 1) := by decide +kernel
theorem dd_K_abort_45 : decode mt_K_abort.2.1 45 = .ok (.invokevirtual 172, 3) := by decide +kernel
theorem dd_K_abort_48 : decode mt_K_abort.2.1 48 = .ok (.aload_n 0, 1) := by decide +kernel
theorem dd_K_abort_49 : decode mt_K_abort.2.1 49 = .ok (.invokevirtual 57, 3) := by decide +kernel
theorem dd_K_abort_52 : decode mt_K_abort.2.1 52 = .ok (.iconst 1, 1) := by decide +kernel
theorem dd_K_abort_53 : decode mt_K_abort.2.1 53 = .ok (.ireturn, 1) := by decide +kernel
theorem dd_K_spoil_0 : decode mt_K_spoil.2.1 0 = .ok (.aload_n 0, 1) := by decide +kernel
theorem dd_K_spoil_1 : decode mt_K_spoil.2.1 1 = .ok (.iload_n 1, 1) := by decide +kernel
theorem dd_K_spoil_2 : decode mt_K_spoil.2.1 2 = .ok (.invokevirtual 148, 3) := by decide +kernel
theorem dd_K_spoil_5 : decode mt_K_spoil.2.1 5 = .ok (.astore_n 3, 1) := by decide +kernel
theorem dd_K_spoil_6 : decode mt_K_spoil.2.1 6 = .ok (.aload_n 3, 1) := by decide +kernel
theorem dd_K_spoil_7 : decode mt_K_spoil.2.1 7 = .ok (.ifnull 17, 3) := by decide +kernel
theorem dd_K_spoil_10 : decode mt_K_spoil.2.1 10 = .ok (.aload_n 3, 1) := by decide +kernel
theorem dd_K_spoil_11 : decode mt_K_spoil.2.1 11 = .ok (.getfield 176, 3) := by decide +kernel
theorem dd_K_spoil_14 : decode mt_K_spoil.2.1 14 = .ok (.ifCond .ne 10, 3) := by decide +kernel
theorem dd_K_spoil_17 : decode mt_K_spoil.2.1 17 = .ok (.iload_n 2, 1) := by decide +kernel
theorem dd_K_spoil_18 : decode mt_K_spoil.2.1 18 = .ok (.invokestatic 113, 3) := by decide +kernel
theorem dd_K_spoil_21 : decode mt_K_spoil.2.1 21 = .ok (.ifCond .ne 5, 3) := by decide +kernel
theorem dd_K_spoil_24 : decode mt_K_spoil.2.1 24 = .ok (.iconst 0, 1) := by decide +kernel
theorem dd_K_spoil_25 : decode mt_K_spoil.2.1 25 = .ok (.ireturn, 1) := by decide +kernel
theorem dd_K_spoil_26 : decode mt_K_spoil.2.1 26 = .ok (.aload_n 3, 1) := by decide +kernel
theorem dd_K_spoil_27 : decode mt_K_spoil.2.1 27 = .ok (.iload_n 2, 1) := by decide +kernel
theorem dd_K_spoil_28 : decode mt_K_spoil.2.1 28 = .ok (.invokevirtual 177, 3) := by decide +kernel
theorem dd_K_spoil_31 : decode mt_K_spoil.2.1 31 = .ok (.aload_n 0, 1) := by decide +kernel
theorem dd_K_spoil_32 : decode mt_K_spoil.2.1 32 = .ok (.invokevirtual 57, 3) := by decide +kernel
theorem dd_K_spoil_35 : decode mt_K_spoil.2.1 35 = .ok (.iconst 1, 1) := by decide +kernel
theorem dd_K_spoil_36 : decode mt_K_spoil.2.1 36 = .ok (.ireturn, 1) := by decide +kernel
theorem dd_K_settle_0 : decode mt_K_settle.2.1 0 = .ok (.aload_n 0, 1) := by decide +kernel
theorem dd_K_settle_1 : decode mt_K_settle.2.1 1 = .ok (.iload_n 1, 1) := by decide +kernel
theorem dd_K_settle_2 : decode mt_K_settle.2.1 2 = .ok (.invokevirtual 148, 3) := by decide +kernel
theorem dd_K_settle_5 : decode mt_K_settle.2.1 5 = .ok (.astore_n 3, 1) := by decide +kernel
theorem dd_K_settle_6 : decode mt_K_settle.2.1 6 = .ok (.aload_n 3, 1) := by decide +kernel
theorem dd_K_settle_7 : decode mt_K_settle.2.1 7 = .ok (.ifnull 17, 3) := by decide +kernel
theorem dd_K_settle_10 : decode mt_K_settle.2.1 10 = .ok (.aload_n 3, 1) := by decide +kernel
theorem dd_K_settle_11 : decode mt_K_settle.2.1 11 = .ok (.getfield 169, 3) := by decide +kernel
theorem dd_K_settle_14 : decode mt_K_settle.2.1 14 = .ok (.ifCond .eq 10, 3) := by decide +kernel
theorem dd_K_settle_17 : decode mt_K_settle.2.1 17 = .ok (.iload_n 2, 1) := by decide +kernel
theorem dd_K_settle_18 : decode mt_K_settle.2.1 18 = .ok (.invokestatic 126, 3) := by decide +kernel
theorem dd_K_settle_21 : decode mt_K_settle.2.1 21 = .ok (.ifCond .ne 5, 3) := by decide +kernel
theorem dd_K_settle_24 : decode mt_K_settle.2.1 24 = .ok (.iconst 0, 1) := by decide +kernel
theorem dd_K_settle_25 : decode mt_K_settle.2.1 25 = .ok (.ireturn, 1) := by decide +kernel
theorem dd_K_settle_26 : decode mt_K_settle.2.1 26 = .ok (.aload_n 0, 1) := by decide +kernel
theorem dd_K_settle_27 : decode mt_K_settle.2.1 27 = .ok (.getfield 19, 3) := by decide +kernel
theorem dd_K_settle_30 : decode mt_K_settle.2.1 30 = .ok (.aload_n 3, 1) := by decide +kernel
theorem dd_K_settle_31 : decode mt_K_settle.2.1 31 = .ok (.getfield 169, 3) := by decide +kernel
theorem dd_K_settle_34 : decode mt_K_settle.2.1 34 = .ok (.iload_n 1, 1) := by decide +kernel
theorem dd_K_settle_35 : decode mt_K_settle.2.1 35 = .ok (.invokevirtual 122, 3) := by decide +kernel
theorem dd_K_settle_38 : decode mt_K_settle.2.1 38 = .ok (.ifCond .eq 5, 3) := by decide +kernel
theorem dd_K_settle_41 : decode mt_K_settle.2.1 41 = .ok (.iconst 0, 1) := by decide +kernel
theorem dd_K_settle_42 : decode mt_K_settle.2.1 42 = .ok (.ireturn, 1) := by decide +kernel
theorem dd_K_settle_43 : decode mt_K_settle.2.1 43 = .ok (.aload_n 0, 1) := by decide +kernel
theorem dd_K_settle_44 : decode mt_K_settle.2.1 44 = .ok (.getfield 19, 3) := by decide +kernel
theorem dd_K_settle_47 : decode mt_K_settle.2.1 47 = .ok (.aload_n 3, 1) := by decide +kernel
theorem dd_K_settle_48 : decode mt_K_settle.2.1 48 = .ok (.getfield 169, 3) := by decide +kernel
theorem dd_K_settle_51 : decode mt_K_settle.2.1 51 = .ok (.iload_n 1, 1) := by decide +kernel
theorem dd_K_settle_52 : decode mt_K_settle.2.1 52 = .ok (.iload_n 2, 1) := by decide +kernel
theorem dd_K_settle_53 : decode mt_K_settle.2.1 53 = .ok (.invokevirtual 129, 3) := by decide +kernel
theorem dd_K_settle_56 : decode mt_K_settle.2.1 56 = .ok (.aload_n 0, 1) := by decide +kernel
theorem dd_K_settle_57 : decode mt_K_settle.2.1 57 = .ok (.invokevirtual 57, 3) := by decide +kernel
theorem dd_K_settle_60 : decode mt_K_settle.2.1 60 = .ok (.iconst 1, 1) := by decide +kernel
theorem dd_K_settle_61 : decode mt_K_settle.2.1 61 = .ok (.ireturn, 1) := by decide +kernel
theorem dd_K_pipe_0 : decode mt_K_pipe.2.1 0 = .ok (.aload_n 0, 1) := by decide +kernel
theorem dd_K_pipe_1 : decode mt_K_pipe.2.1 1 = .ok (.iload_n 1, 1) := by decide +kernel
theorem dd_K_pipe_2 : decode mt_K_pipe.2.1 2 = .ok (.invokevirtual 133, 3) := by decide +kernel
theorem dd_K_pipe_5 : decode mt_K_pipe.2.1 5 = .ok (.astore 4, 2) := by decide +kernel
theorem dd_K_pipe_7 : decode mt_K_pipe.2.1 7 = .ok (.aload_n 0, 1) := by decide +kernel
theorem dd_K_pipe_8 : decode mt_K_pipe.2.1 8 = .ok (.iload_n 2, 1) := by decide +kernel
theorem dd_K_pipe_9 : decode mt_K_pipe.2.1 9 = .ok (.invokevirtual 148, 3) := by decide +kernel
theorem dd_K_pipe_12 : decode mt_K_pipe.2.1 12 = .ok (.astore 5, 2) := by decide +kernel
theorem dd_K_pipe_14 : decode mt_K_pipe.2.1 14 = .ok (.aload 4, 2) := by decide +kernel
theorem dd_K_pipe_16 : decode mt_K_pipe.2.1 16 = .ok (.ifnull 18, 3) := by decide +kernel
theorem dd_K_pipe_19 : decode mt_K_pipe.2.1 19 = .ok (.aload 5, 2) := by decide +kernel
theorem dd_K_pipe_21 : decode mt_K_pipe.2.1 21 = .ok (.ifnull 13, 3) := by decide +kernel
theorem dd_K_pipe_24 : decode mt_K_pipe.2.1 24 = .ok (.iload_n 3, 1) := by decide +kernel
theorem dd_K_pipe_25 : decode mt_K_pipe.2.1 25 = .ok (.ifCond .lt 9, 3) := by decide +kernel
theorem dd_K_pipe_28 : decode mt_K_pipe.2.1 28 = .ok (.iload_n 3, 1) := by decide +kernel
theorem dd_K_pipe_29 : decode mt_K_pipe.2.1 29 = .ok (.bipush 7, 2) := by decide +kernel
theorem dd_K_pipe_31 : decode mt_K_pipe.2.1 31 = .ok (.if_icmp .le 5, 3) := by decide +kernel
theorem dd_K_pipe_34 : decode mt_K_pipe.2.1 34 = .ok (.iconst (-1), 1) := by decide +kernel
theorem dd_K_pipe_35 : decode mt_K_pipe.2.1 35 = .ok (.ireturn, 1) := by decide +kernel
theorem dd_K_pipe_36 : decode mt_K_pipe.2.1 36 = .ok (.aload 4, 2) := by decide +kernel
theorem dd_K_pipe_38 : decode mt_K_pipe.2.1 38 = .ok (.invokevirtual 136, 3) := by decide +kernel
theorem dd_K_pipe_41 : decode mt_K_pipe.2.1 41 = .ok (.ifCond .ne 22, 3) := by decide +kernel
theorem dd_K_pipe_44 : decode mt_K_pipe.2.1 44 = .ok (.aload 5, 2) := by decide +kernel
theorem dd_K_pipe_46 : decode mt_K_pipe.2.1 46 = .ok (.getfield 152, 3) := by decide +kernel
theorem dd_K_pipe_49 : decode mt_K_pipe.2.1 49 = .ok (.ifCond .ne 14, 3) := by decide +kernel
theorem dd_K_pipe_52 : decode mt_K_pipe.2.1 52 = .ok (.aload 4, 2) := by decide +kernel
theorem dd_K_pipe_54 : decode mt_K_pipe.2.1 54 = .ok (.getfield 91, 3) := by decide +kernel
theorem dd_K_pipe_57 : decode mt_K_pipe.2.1 57 = .ok (.getfield 95, 3) := by decide +kernel
theorem dd_K_pipe_60 : decode mt_K_pipe.2.1 60 = .ok (.ifCond .le 6, 3) := by decide +kernel
theorem dd_K_pipe_63 : decode mt_K_pipe.2.1 63 = .ok (.bipush (-2), 2) := by decide +kernel
theorem dd_K_pipe_65 : decode mt_K_pipe.2.1 65 = .ok (.ireturn, 1) := by decide +kernel
theorem dd_K_pipe_66 : decode mt_K_pipe.2.1 66 = .ok (.aload_n 0, 1) := by decide +kernel
theorem dd_K_pipe_67 : decode mt_K_pipe.2.1 67 = .ok (.getfield 180, 3) := by decide +kernel
theorem dd_K_pipe_70 : decode mt_K_pipe.2.1 70 = .ok (.iconst 2, 1) := by decide +kernel
theorem dd_K_pipe_71 : decode mt_K_pipe.2.1 71 = .ok (.if_icmp .lt 6, 3) := by decide +kernel
theorem dd_K_pipe_74 : decode mt_K_pipe.2.1 74 = .ok (.bipush (-3), 2) := by decide +kernel
theorem dd_K_pipe_76 : decode mt_K_pipe.2.1 76 = .ok (.ireturn, 1) := by decide +kernel
theorem dd_K_pipe_77 : decode mt_K_pipe.2.1 77 = .ok (.new 35, 3) := by decide +kernel
theorem dd_K_pipe_80 : decode mt_K_pipe.2.1 80 = .ok (.dup, 1) := by decide +kernel
theorem dd_K_pipe_81 : decode mt_K_pipe.2.1 81 = .ok (.aload_n 0, 1) := by decide +kernel
theorem dd_K_pipe_82 : decode mt_K_pipe.2.1 82 = .ok (.getfield 180, 3) := by decide +kernel
theorem dd_K_pipe_85 : decode mt_K_pipe.2.1 85 = .ok (.aload 4, 2) := by decide +kernel
theorem dd_K_pipe_87 : decode mt_K_pipe.2.1 87 = .ok (.aload 5, 2) := by decide +kernel
theorem dd_K_pipe_89 : decode mt_K_pipe.2.1 89 = .ok (.iload_n 3, 1) := by decide +kernel
theorem dd_K_pipe_90 : decode mt_K_pipe.2.1 90 = .ok (.invokespecial 183, 3) := by decide +kernel
theorem dd_K_pipe_93 : decode mt_K_pipe.2.1 93 = .ok (.astore 6, 2) := by decide +kernel
theorem dd_K_pipe_95 : decode mt_K_pipe.2.1 95 = .ok (.aload_n 0, 1) := by decide +kernel
theorem dd_K_pipe_96 : decode mt_K_pipe.2.1 96 = .ok (.getfield 37, 3) := by decide +kernel
theorem dd_K_pipe_99 : decode mt_K_pipe.2.1 99 = .ok (.aload_n 0, 1) := by decide +kernel
theorem dd_K_pipe_100 : decode mt_K_pipe.2.1 100 = .ok (.getfield 180, 3) := by decide +kernel
theorem dd_K_pipe_103 : decode mt_K_pipe.2.1 103 = .ok (.aload 6, 2) := by decide +kernel
theorem dd_K_pipe_105 : decode mt_K_pipe.2.1 105 = .ok (.aastore, 1) := by decide +kernel
theorem dd_K_pipe_106 : decode mt_K_pipe.2.1 106 = .ok (.aload_n 0, 1) := by decide +kernel
theorem dd_K_pipe_107 : decode mt_K_pipe.2.1 107 = .ok (.dup, 1) := by decide +kernel
theorem dd_K_pipe_108 : decode mt_K_pipe.2.1 108 = .ok (.getfield 180, 3) := by decide +kernel
theorem dd_K_pipe_111 : decode mt_K_pipe.2.1 111 = .ok (.iconst 1, 1) := by decide +kernel
theorem dd_K_pipe_112 : decode mt_K_pipe.2.1 112 = .ok (.iadd, 1) := by decide +kernel
theorem dd_K_pipe_113 : decode mt_K_pipe.2.1 113 = .ok (.putfield 180, 3) := by decide +kernel
theorem dd_K_pipe_116 : decode mt_K_pipe.2.1 116 = .ok (.aload 4, 2) := by decide +kernel
theorem dd_K_pipe_118 : decode mt_K_pipe.2.1 118 = .ok (.aload 6, 2) := by decide +kernel
theorem dd_K_pipe_120 : decode mt_K_pipe.2.1 120 = .ok (.putfield 186, 3) := by decide +kernel
theorem dd_K_pipe_123 : decode mt_K_pipe.2.1 123 = .ok (.aload 5, 2) := by decide +kernel
theorem dd_K_pipe_125 : decode mt_K_pipe.2.1 125 = .ok (.iconst 1, 1) := by decide +kernel
theorem dd_K_pipe_126 : decode mt_K_pipe.2.1 126 = .ok (.putfield 152, 3) := by decide +kernel
theorem dd_K_pipe_129 : decode mt_K_pipe.2.1 129 = .ok (.aload_n 0, 1) := by decide +kernel
theorem dd_K_pipe_130 : decode mt_K_pipe.2.1 130 = .ok (.invokevirtual 57, 3) := by decide +kernel
theorem dd_K_pipe_133 : decode mt_K_pipe.2.1 133 = .ok (.aload 6, 2) := by decide +kernel
theorem dd_K_pipe_135 : decode mt_K_pipe.2.1 135 = .ok (.getfield 190, 3) := by decide +kernel
theorem dd_K_pipe_138 : decode mt_K_pipe.2.1 138 = .ok (.ireturn, 1) := by decide +kernel
theorem dd_K_part_0 : decode mt_K_part.2.1 0 = .ok (.aload_n 0, 1) := by decide +kernel
theorem dd_K_part_1 : decode mt_K_part.2.1 1 = .ok (.iload_n 1, 1) := by decide +kernel
theorem dd_K_part_2 : decode mt_K_part.2.1 2 = .ok (.invokevirtual 133, 3) := by decide +kernel
theorem dd_K_part_5 : decode mt_K_part.2.1 5 = .ok (.astore_n 2, 1) := by decide +kernel
theorem dd_K_part_6 : decode mt_K_part.2.1 6 = .ok (.aload_n 2, 1) := by decide +kernel
theorem dd_K_part_7 : decode mt_K_part.2.1 7 = .ok (.ifnonnull 5, 3) := by decide +kernel
theorem dd_K_part_10 : decode mt_K_part.2.1 10 = .ok (.iconst (-1), 1) := by decide +kernel
theorem dd_K_part_11 : decode mt_K_part.2.1 11 = .ok (.ireturn, 1) := by decide +kernel
theorem dd_K_part_12 : decode mt_K_part.2.1 12 = .ok (.aload_n 2, 1) := by decide +kernel
theorem dd_K_part_13 : decode mt_K_part.2.1 13 = .ok (.invokevirtual 136, 3) := by decide +kernel
theorem dd_K_part_16 : decode mt_K_part.2.1 16 = .ok (.ifCond .ne 20, 3) := by decide +kernel
theorem dd_K_part_19 : decode mt_K_part.2.1 19 = .ok (.aload_n 2, 1) := by decide +kernel
theorem dd_K_part_20 : decode mt_K_part.2.1 20 = .ok (.getfield 191, 3) := by decide +kernel
theorem dd_K_part_23 : decode mt_K_part.2.1 23 = .ok (.ifnonnull 13, 3) := by decide +kernel
theorem dd_K_part_26 : decode mt_K_part.2.1 26 = .ok (.aload_n 2, 1) := by decide +kernel
theorem dd_K_part_27 : decode mt_K_part.2.1 27 = .ok (.getfield 91, 3) := by decide +kernel
theorem dd_K_part_30 : decode mt_K_part.2.1 30 = .ok (.getfield 95, 3) := by decide +kernel
theorem dd_K_part_33 : decode mt_K_part.2.1 33 = .ok (.ifCond .le 6, 3) := by decide +kernel
theorem dd_K_part_36 : decode mt_K_part.2.1 36 = .ok (.bipush (-2), 2) := by decide +kernel
theorem dd_K_part_38 : decode mt_K_part.2.1 38 = .ok (.ireturn, 1) := by decide +kernel
theorem dd_K_part_39 : decode mt_K_part.2.1 39 = .ok (.aload_n 0, 1) := by decide +kernel
theorem dd_K_part_40 : decode mt_K_part.2.1 40 = .ok (.getfield 45, 3) := by decide +kernel
theorem dd_K_part_43 : decode mt_K_part.2.1 43 = .ok (.iconst 4, 1) := by decide +kernel
theorem dd_K_part_44 : decode mt_K_part.2.1 44 = .ok (.if_icmp .le 6, 3) := by decide +kernel
theorem dd_K_part_47 : decode mt_K_part.2.1 47 = .ok (.bipush (-3), 2) := by decide +kernel
theorem dd_K_part_49 : decode mt_K_part.2.1 49 = .ok (.ireturn, 1) := by decide +kernel
theorem dd_K_part_50 : decode mt_K_part.2.1 50 = .ok (.aload_n 0, 1) := by decide +kernel
theorem dd_K_part_51 : decode mt_K_part.2.1 51 = .ok (.iconst 0, 1) := by decide +kernel
theorem dd_K_part_52 : decode mt_K_part.2.1 52 = .ok (.iconst 0, 1) := by decide +kernel
theorem dd_K_part_53 : decode mt_K_part.2.1 53 = .ok (.invokevirtual 49, 3) := by decide +kernel
theorem dd_K_part_56 : decode mt_K_part.2.1 56 = .ok (.astore_n 3, 1) := by decide +kernel
theorem dd_K_part_57 : decode mt_K_part.2.1 57 = .ok (.aload_n 0, 1) := by decide +kernel
theorem dd_K_part_58 : decode mt_K_part.2.1 58 = .ok (.iconst 0, 1) := by decide +kernel
theorem dd_K_part_59 : decode mt_K_part.2.1 59 = .ok (.iconst 0, 1) := by decide +kernel
theorem dd_K_part_60 : decode mt_K_part.2.1 60 = .ok (.invokevirtual 49, 3) := by decide +kernel
theorem dd_K_part_63 : decode mt_K_part.2.1 63 = .ok (.astore 4, 2) := by decide +kernel
theorem dd_K_part_65 : decode mt_K_part.2.1 65 = .ok (.new 195, 3) := by decide +kernel
theorem dd_K_part_68 : decode mt_K_part.2.1 68 = .ok (.dup, 1) := by decide +kernel
theorem dd_K_part_69 : decode mt_K_part.2.1 69 = .ok (.aload_n 2, 1) := by decide +kernel
theorem dd_K_part_70 : decode mt_K_part.2.1 70 = .ok (.aload_n 3, 1) := by decide +kernel
theorem dd_K_part_71 : decode mt_K_part.2.1 71 = .ok (.aload 4, 2) := by decide +kernel
theorem dd_K_part_73 : decode mt_K_part.2.1 73 = .ok (.invokespecial 197, 3) := by decide +kernel
theorem dd_K_part_76 : decode mt_K_part.2.1 76 = .ok (.astore 5, 2) := by decide +kernel
theorem dd_K_part_78 : decode mt_K_part.2.1 78 = .ok (.aload_n 2, 1) := by decide +kernel
theorem dd_K_part_79 : decode mt_K_part.2.1 79 = .ok (.aload 5, 2) := by decide +kernel
theorem dd_K_part_81 : decode mt_K_part.2.1 81 = .ok (.putfield 200, 3) := by decide +kernel
theorem dd_K_part_84 : decode mt_K_part.2.1 84 = .ok (.aload_n 3, 1) := by decide +kernel
theorem dd_K_part_85 : decode mt_K_part.2.1 85 = .ok (.aload 5, 2) := by decide +kernel
theorem dd_K_part_87 : decode mt_K_part.2.1 87 = .ok (.putfield 191, 3) := by decide +kernel
theorem dd_K_part_90 : decode mt_K_part.2.1 90 = .ok (.aload 4, 2) := by decide +kernel
theorem dd_K_part_92 : decode mt_K_part.2.1 92 = .ok (.aload 5, 2) := by decide +kernel
theorem dd_K_part_94 : decode mt_K_part.2.1 94 = .ok (.putfield 191, 3) := by decide +kernel
theorem dd_K_part_97 : decode mt_K_part.2.1 97 = .ok (.aload_n 2, 1) := by decide +kernel
theorem dd_K_part_98 : decode mt_K_part.2.1 98 = .ok (.getfield 110, 3) := by decide +kernel
theorem dd_K_part_101 : decode mt_K_part.2.1 101 = .ok (.iconst 1, 1) := by decide +kernel
theorem dd_K_part_102 : decode mt_K_part.2.1 102 = .ok (.if_icmp .ne 12, 3) := by decide +kernel
theorem dd_K_part_105 : decode mt_K_part.2.1 105 = .ok (.aload_n 0, 1) := by decide +kernel
theorem dd_K_part_106 : decode mt_K_part.2.1 106 = .ok (.aload 5, 2) := by decide +kernel
theorem dd_K_part_108 : decode mt_K_part.2.1 108 = .ok (.invokevirtual 203, 3) := by decide +kernel
theorem dd_K_part_111 : decode mt_K_part.2.1 111 = .ok (.goto 21, 3) := by decide +kernel
theorem dd_K_part_114 : decode mt_K_part.2.1 114 = .ok (.aload_n 2, 1) := by decide +kernel
theorem dd_K_part_115 : decode mt_K_part.2.1 115 = .ok (.getfield 110, 3) := by decide +kernel
theorem dd_K_part_118 : decode mt_K_part.2.1 118 = .ok (.iconst 2, 1) := by decide +kernel
theorem dd_K_part_119 : decode mt_K_part.2.1 119 = .ok (.if_icmp .ne 13, 3) := by decide +kernel
theorem dd_K_part_122 : decode mt_K_part.2.1 122 = .ok (.aload_n 0, 1) := by decide +kernel
theorem dd_K_part_123 : decode mt_K_part.2.1 123 = .ok (.aload 5, 2) := by decide +kernel
theorem dd_K_part_125 : decode mt_K_part.2.1 125 = .ok (.aload_n 2, 1) := by decide +kernel
theorem dd_K_part_126 : decode mt_K_part.2.1 126 = .ok (.getfield 207, 3) := by decide +kernel
theorem dd_K_part_129 : decode mt_K_part.2.1 129 = .ok (.invokevirtual 210, 3) := by decide +kernel
theorem dd_K_part_132 : decode mt_K_part.2.1 132 = .ok (.aload_n 0, 1) := by decide +kernel
theorem dd_K_part_133 : decode mt_K_part.2.1 133 = .ok (.invokevirtual 57, 3) := by decide +kernel
theorem dd_K_part_136 : decode mt_K_part.2.1 136 = .ok (.aload_n 3, 1) := by decide +kernel
theorem dd_K_part_137 : decode mt_K_part.2.1 137 = .ok (.getfield 60, 3) := by decide +kernel
theorem dd_K_part_140 : decode mt_K_part.2.1 140 = .ok (.ireturn, 1) := by decide +kernel
theorem dd_K_doPulled_0 : decode mt_K_doPulled.2.1 0 = .ok (.aload_n 1, 1) := by decide +kernel
theorem dd_K_doPulled_1 : decode mt_K_doPulled.2.1 1 = .ok (.ifnonnull 4, 3) := by decide +kernel
theorem dd_K_doPulled_4 : decode mt_K_doPulled.2.1 4 = .ok (.return_, 1) := by decide +kernel
theorem dd_K_doPulled_5 : decode mt_K_doPulled.2.1 5 = .ok (.aload_n 1, 1) := by decide +kernel
theorem dd_K_doPulled_6 : decode mt_K_doPulled.2.1 6 = .ok (.iconst 0, 1) := by decide +kernel
theorem dd_K_doPulled_7 : decode mt_K_doPulled.2.1 7 = .ok (.putfield 119, 3) := by decide +kernel
theorem dd_K_doPulled_10 : decode mt_K_doPulled.2.1 10 = .ok (.iload_n 2, 1) := by decide +kernel
theorem dd_K_doPulled_11 : decode mt_K_doPulled.2.1 11 = .ok (.iconst (-1), 1) := by decide +kernel
theorem dd_K_doPulled_12 : decode mt_K_doPulled.2.1 12 = .ok (.if_icmp .eq 12, 3) := by decide +kernel
theorem dd_K_doPulled_15 : decode mt_K_doPulled.2.1 15 = .ok (.aload_n 0, 1) := by decide +kernel
theorem dd_K_doPulled_16 : decode mt_K_doPulled.2.1 16 = .ok (.aload_n 1, 1) := by decide +kernel
theorem dd_K_doPulled_17 : decode mt_K_doPulled.2.1 17 = .ok (.iload_n 2, 1) := by decide +kernel
theorem dd_K_doPulled_18 : decode mt_K_doPulled.2.1 18 = .ok (.invokevirtual 116, 3) := by decide +kernel
theorem dd_K_doPulled_21 : decode mt_K_doPulled.2.1 21 = .ok (.goto 20, 3) := by decide +kernel
theorem dd_K_doPulled_24 : decode mt_K_doPulled.2.1 24 = .ok (.aload_n 1, 1) := by decide +kernel
theorem dd_K_doPulled_25 : decode mt_K_doPulled.2.1 25 = .ok (.getfield 218, 3) := by decide +kernel
theorem dd_K_doPulled_28 : decode mt_K_doPulled.2.1 28 = .ok (.ifCond .eq 13, 3) := by decide +kernel
theorem dd_K_doPulled_31 : decode mt_K_doPulled.2.1 31 = .ok (.aload_n 1, 1) := by decide +kernel
theorem dd_K_doPulled_32 : decode mt_K_doPulled.2.1 32 = .ok (.iconst 0, 1) := by decide +kernel
theorem dd_K_doPulled_33 : decode mt_K_doPulled.2.1 33 = .ok (.putfield 218, 3) := by decide +kernel
theorem dd_K_doPulled_36 : decode mt_K_doPulled.2.1 36 = .ok (.aload_n 0, 1) := by decide +kernel
theorem dd_K_doPulled_37 : decode mt_K_doPulled.2.1 37 = .ok (.aload_n 1, 1) := by decide +kernel
theorem dd_K_doPulled_38 : decode mt_K_doPulled.2.1 38 = .ok (.invokevirtual 53, 3) := by decide +kernel
theorem dd_K_doPulled_41 : decode mt_K_doPulled.2.1 41 = .ok (.return_, 1) := by decide +kernel
theorem dd_K_doParted_0 : decode mt_K_doParted.2.1 0 = .ok (.aload_n 1, 1) := by decide +kernel
theorem dd_K_doParted_1 : decode mt_K_doParted.2.1 1 = .ok (.ifnull 10, 3) := by decide +kernel
theorem dd_K_doParted_4 : decode mt_K_doParted.2.1 4 = .ok (.aload_n 1, 1) := by decide +kernel
theorem dd_K_doParted_5 : decode mt_K_doParted.2.1 5 = .ok (.getfield 200, 3) := by decide +kernel
theorem dd_K_doParted_8 : decode mt_K_doParted.2.1 8 = .ok (.ifnonnull 4, 3) := by decide +kernel
theorem dd_K_doParted_11 : decode mt_K_doParted.2.1 11 = .ok (.return_, 1) := by decide +kernel
theorem dd_K_doParted_12 : decode mt_K_doParted.2.1 12 = .ok (.aload_n 1, 1) := by decide +kernel
theorem dd_K_doParted_13 : decode mt_K_doParted.2.1 13 = .ok (.getfield 200, 3) := by decide +kernel
theorem dd_K_doParted_16 : decode mt_K_doParted.2.1 16 = .ok (.astore_n 3, 1) := by decide +kernel
theorem dd_K_doParted_17 : decode mt_K_doParted.2.1 17 = .ok (.aload_n 3, 1) := by decide +kernel
theorem dd_K_doParted_18 : decode mt_K_doParted.2.1 18 = .ok (.iconst 0, 1) := by decide +kernel
theorem dd_K_doParted_19 : decode mt_K_doParted.2.1 19 = .ok (.putfield 276, 3) := by decide +kernel
theorem dd_K_doParted_22 : decode mt_K_doParted.2.1 22 = .ok (.aload_n 3, 1) := by decide +kernel
theorem dd_K_doParted_23 : decode mt_K_doParted.2.1 23 = .ok (.getfield 285, 3) := by decide +kernel
theorem dd_K_doParted_26 : decode mt_K_doParted.2.1 26 = .ok (.astore 4, 2) := by decide +kernel
theorem dd_K_doParted_28 : decode mt_K_doParted.2.1 28 = .ok (.aload 4, 2) := by decide +kernel
theorem dd_K_doParted_30 : decode mt_K_doParted.2.1 30 = .ok (.arraylength, 1) := by decide +kernel
theorem dd_K_doParted_31 : decode mt_K_doParted.2.1 31 = .ok (.istore 5, 2) := by decide +kernel
theorem dd_K_doParted_33 : decode mt_K_doParted.2.1 33 = .ok (.iconst 0, 1) := by decide +kernel
theorem dd_K_doParted_34 : decode mt_K_doParted.2.1 34 = .ok (.istore 6, 2) := by decide +kernel
theorem dd_K_doParted_36 : decode mt_K_doParted.2.1 36 = .ok (.iload 6, 2) := by decide +kernel
theorem dd_K_doParted_38 : decode mt_K_doParted.2.1 38 = .ok (.iload 5, 2) := by decide +kernel
theorem dd_K_doParted_40 : decode mt_K_doParted.2.1 40 = .ok (.if_icmp .ge 65, 3) := by decide +kernel
theorem dd_K_doParted_43 : decode mt_K_doParted.2.1 43 = .ok (.aload 4, 2) := by decide +kernel
theorem dd_K_doParted_45 : decode mt_K_doParted.2.1 45 = .ok (.iload 6, 2) := by decide +kernel
theorem dd_K_doParted_47 : decode mt_K_doParted.2.1 47 = .ok (.aaload, 1) := by decide +kernel
theorem dd_K_doParted_48 : decode mt_K_doParted.2.1 48 = .ok (.astore 7, 2) := by decide +kernel
theorem dd_K_doParted_50 : decode mt_K_doParted.2.1 50 = .ok (.aload 7, 2) := by decide +kernel
theorem dd_K_doParted_52 : decode mt_K_doParted.2.1 52 = .ok (.invokevirtual 79, 3) := by decide +kernel
theorem dd_K_doParted_55 : decode mt_K_doParted.2.1 55 = .ok (.ifCond .eq 44, 3) := by decide +kernel
theorem dd_K_doParted_58 : decode mt_K_doParted.2.1 58 = .ok (.aload 7, 2) := by decide +kernel
theorem dd_K_doParted_60 : decode mt_K_doParted.2.1 60 = .ok (.getfield 294, 3) := by decide +kernel
theorem dd_K_doParted_63 : decode mt_K_doParted.2.1 63 = .ok (.ifCond .eq 6, 3) := by decide +kernel
theorem dd_K_doParted_66 : decode mt_K_doParted.2.1 66 = .ok (.goto 33, 3) := by decide +kernel
theorem dd_K_doParted_69 : decode mt_K_doParted.2.1 69 = .ok (.aload 7, 2) := by decide +kernel
theorem dd_K_doParted_71 : decode mt_K_doParted.2.1 71 = .ok (.getfield 83, 3) := by decide +kernel
theorem dd_K_doParted_74 : decode mt_K_doParted.2.1 74 = .ok (.invokevirtual 87, 3) := by decide +kernel
theorem dd_K_doParted_77 : decode mt_K_doParted.2.1 77 = .ok (.bipush 16, 2) := by decide +kernel
theorem dd_K_doParted_79 : decode mt_K_doParted.2.1 79 = .ok (.if_icmp .lt 13, 3) := by decide +kernel
theorem dd_K_doParted_82 : decode mt_K_doParted.2.1 82 = .ok (.aload 7, 2) := by decide +kernel
theorem dd_K_doParted_84 : decode mt_K_doParted.2.1 84 = .ok (.bipush 101, 2) := by decide +kernel
theorem dd_K_doParted_86 : decode mt_K_doParted.2.1 86 = .ok (.invokevirtual 288, 3) := by decide +kernel
theorem dd_K_doParted_89 : decode mt_K_doParted.2.1 89 = .ok (.goto 10, 3) := by decide +kernel
theorem dd_K_doParted_92 : decode mt_K_doParted.2.1 92 = .ok (.aload_n 0, 1) := by decide +kernel
theorem dd_K_doParted_93 : decode mt_K_doParted.2.1 93 = .ok (.aload 7, 2) := by decide +kernel
theorem dd_K_doParted_95 : decode mt_K_doParted.2.1 95 = .ok (.iload_n 2, 1) := by decide +kernel
theorem dd_K_doParted_96 : decode mt_K_doParted.2.1 96 = .ok (.invokevirtual 99, 3) := by decide +kernel
theorem dd_K_doParted_99 : decode mt_K_doParted.2.1 99 = .ok (.iinc 6 1, 3) := by decide +kernel
theorem dd_K_doParted_102 : decode mt_K_doParted.2.1 102 = .ok (.goto (-66), 3) := by decide +kernel
theorem dd_K_doParted_105 : decode mt_K_doParted.2.1 105 = .ok (.aload_n 3, 1) := by decide +kernel
theorem dd_K_doParted_106 : decode mt_K_doParted.2.1 106 = .ok (.iconst 0, 1) := by decide +kernel
theorem dd_K_doParted_107 : decode mt_K_doParted.2.1 107 = .ok (.putfield 273, 3) := by decide +kernel
theorem dd_K_doParted_110 : decode mt_K_doParted.2.1 110 = .ok (.aload_n 3, 1) := by decide +kernel
theorem dd_K_doParted_111 : decode mt_K_doParted.2.1 111 = .ok (.getfield 276, 3) := by decide +kernel
theorem dd_K_doParted_114 : decode mt_K_doParted.2.1 114 = .ok (.ifCond .eq 16, 3) := by decide +kernel
theorem dd_K_doParted_117 : decode mt_K_doParted.2.1 117 = .ok (.aload_n 0, 1) := by decide +kernel
theorem dd_K_doParted_118 : decode mt_K_doParted.2.1 118 = .ok (.aload_n 3, 1) := by decide +kernel
theorem dd_K_doParted_119 : decode mt_K_doParted.2.1 119 = .ok (.invokevirtual 277, 3) := by decide +kernel
theorem dd_K_doParted_122 : decode mt_K_doParted.2.1 122 = .ok (.ifCond .ne 8, 3) := by decide +kernel
theorem dd_K_doParted_125 : decode mt_K_doParted.2.1 125 = .ok (.aload_n 0, 1) := by decide +kernel
theorem dd_K_doParted_126 : decode mt_K_doParted.2.1 126 = .ok (.aload_n 3, 1) := by decide +kernel
theorem dd_K_doParted_127 : decode mt_K_doParted.2.1 127 = .ok (.invokevirtual 203, 3) := by decide +kernel
theorem dd_K_doParted_130 : decode mt_K_doParted.2.1 130 = .ok (.return_, 1) := by decide +kernel
theorem dd_K_endPipe_0 : decode mt_K_endPipe.2.1 0 = .ok (.aload_n 1, 1) := by decide +kernel
theorem dd_K_endPipe_1 : decode mt_K_endPipe.2.1 1 = .ok (.invokevirtual 361, 3) := by decide +kernel
theorem dd_K_endPipe_4 : decode mt_K_endPipe.2.1 4 = .ok (.aload_n 0, 1) := by decide +kernel
theorem dd_K_endPipe_5 : decode mt_K_endPipe.2.1 5 = .ok (.getfield 12, 3) := by decide +kernel
theorem dd_K_endPipe_8 : decode mt_K_endPipe.2.1 8 = .ok (.iload_n 2, 1) := by decide +kernel
theorem dd_K_endPipe_9 : decode mt_K_endPipe.2.1 9 = .ok (.aload_n 1, 1) := by decide +kernel
theorem dd_K_endPipe_10 : decode mt_K_endPipe.2.1 10 = .ok (.getfield 190, 3) := by decide +kernel
theorem dd_K_endPipe_13 : decode mt_K_endPipe.2.1 13 = .ok (.iload_n 3, 1) := by decide +kernel
theorem dd_K_endPipe_14 : decode mt_K_endPipe.2.1 14 = .ok (.iconst 0, 1) := by decide +kernel
theorem dd_K_endPipe_15 : decode mt_K_endPipe.2.1 15 = .ok (.invokevirtual 254, 3) := by decide +kernel
theorem dd_K_endPipe_18 : decode mt_K_endPipe.2.1 18 = .ok (.return_, 1) := by decide +kernel
theorem dd_K_doPump_0 : decode mt_K_doPump.2.1 0 = .ok (.aload_n 1, 1) := by decide +kernel
theorem dd_K_doPump_1 : decode mt_K_doPump.2.1 1 = .ok (.ifnull 10, 3) := by decide +kernel
theorem dd_K_doPump_4 : decode mt_K_doPump.2.1 4 = .ok (.aload_n 1, 1) := by decide +kernel
theorem dd_K_doPump_5 : decode mt_K_doPump.2.1 5 = .ok (.getfield 304, 3) := by decide +kernel
theorem dd_K_doPump_8 : decode mt_K_doPump.2.1 8 = .ok (.ifCond .eq 5, 3) := by decide +kernel
theorem dd_K_doPump_11 : decode mt_K_doPump.2.1 11 = .ok (.iconst 0, 1) := by decide +kernel
theorem dd_K_doPump_12 : decode mt_K_doPump.2.1 12 = .ok (.ireturn, 1) := by decide +kernel
theorem dd_K_doPump_13 : decode mt_K_doPump.2.1 13 = .ok (.aload_n 1, 1) := by decide +kernel
theorem dd_K_doPump_14 : decode mt_K_doPump.2.1 14 = .ok (.getfield 339, 3) := by decide +kernel
theorem dd_K_doPump_17 : decode mt_K_doPump.2.1 17 = .ok (.astore_n 2, 1) := by decide +kernel
theorem dd_K_doPump_18 : decode mt_K_doPump.2.1 18 = .ok (.aload_n 1, 1) := by decide +kernel
theorem dd_K_doPump_19 : decode mt_K_doPump.2.1 19 = .ok (.getfield 258, 3) := by decide +kernel
theorem dd_K_doPump_22 : decode mt_K_doPump.2.1 22 = .ok (.astore_n 3, 1) := by decide +kernel
theorem dd_K_doPump_23 : decode mt_K_doPump.2.1 23 = .ok (.aload_n 2, 1) := by decide +kernel
theorem dd_K_doPump_24 : decode mt_K_doPump.2.1 24 = .ok (.getfield 110, 3) := by decide +kernel
theorem dd_K_doPump_27 : decode mt_K_doPump.2.1 27 = .ok (.iconst 2, 1) := by decide +kernel
theorem dd_K_doPump_28 : decode mt_K_doPump.2.1 28 = .ok (.if_icmp .ne 32, 3) := by decide +kernel
theorem dd_K_doPump_31 : decode mt_K_doPump.2.1 31 = .ok (.aload_n 1, 1) := by decide +kernel
theorem dd_K_doPump_32 : decode mt_K_doPump.2.1 32 = .ok (.getfield 342, 3) := by decide +kernel
theorem dd_K_doPump_35 : decode mt_K_doPump.2.1 35 = .ok (.ifCond .ne 11, 3) := by decide +kernel
theorem dd_K_doPump_38 : decode mt_K_doPump.2.1 38 = .ok (.aload_n 3, 1) := by decide +kernel
theorem dd_K_doPump_39 : decode mt_K_doPump.2.1 39 = .ok (.aload_n 2, 1) := by decide +kernel
theorem dd_K_doPump_40 : decode mt_K_doPump.2.1 40 = .ok (.getfield 207, 3) := by decide +kernel
theorem dd_K_doPump_43 : decode mt_K_doPump.2.1 43 = .ok (.invokevirtual 172, 3) := by decide +kernel
theorem dd_K_doPump_46 : decode mt_K_doPump.2.1 46 = .ok (.aload_n 0, 1) := by decide +kernel
theorem dd_K_doPump_47 : decode mt_K_doPump.2.1 47 = .ok (.aload_n 1, 1) := by decide +kernel
theorem dd_K_doPump_48 : decode mt_K_doPump.2.1 48 = .ok (.bipush 16, 2) := by decide +kernel
theorem dd_K_doPump_50 : decode mt_K_doPump.2.1 50 = .ok (.aload_n 2, 1) := by decide +kernel
theorem dd_K_doPump_51 : decode mt_K_doPump.2.1 51 = .ok (.getfield 207, 3) := by decide +kernel
theorem dd_K_doPump_54 : decode mt_K_doPump.2.1 54 = .ok (.invokevirtual 345, 3) := by decide +kernel
theorem dd_K_doPump_57 : decode mt_K_doPump.2.1 57 = .ok (.goto 130, 3) := by decide +kernel
theorem dd_K_doPump_60 : decode mt_K_doPump.2.1 60 = .ok (.aload_n 3, 1) := by decide +kernel
theorem dd_K_doPump_61 : decode mt_K_doPump.2.1 61 = .ok (.invokevirtual 240, 3) := by decide +kernel
theorem dd_K_doPump_64 : decode mt_K_doPump.2.1 64 = .ok (.ifCond .eq 33, 3) := by decide +kernel
theorem dd_K_doPump_67 : decode mt_K_doPump.2.1 67 = .ok (.aload_n 1, 1) := by decide +kernel
theorem dd_K_doPump_68 : decode mt_K_doPump.2.1 68 = .ok (.getfield 349, 3) := by decide +kernel
theorem dd_K_doPump_71 : decode mt_K_doPump.2.1 71 = .ok (.ifCond .ne 12, 3) := by decide +kernel
theorem dd_K_doPump_74 : decode mt_K_doPump.2.1 74 = .ok (.aload_n 0, 1) := by decide +kernel
theorem dd_K_doPump_75 : decode mt_K_doPump.2.1 75 = .ok (.aload_n 2, 1) := by decide +kernel
theorem dd_K_doPump_76 : decode mt_K_doPump.2.1 76 = .ok (.aload_n 3, 1) := by decide +kernel
theorem dd_K_doPump_77 : decode mt_K_doPump.2.1 77 = .ok (.getfield 243, 3) := by decide +kernel
theorem dd_K_doPump_80 : decode mt_K_doPump.2.1 80 = .ok (.invokevirtual 145, 3) := by decide +kernel
theorem dd_K_doPump_83 : decode mt_K_doPump.2.1 83 = .ok (.aload_n 0, 1) := by decide +kernel
theorem dd_K_doPump_84 : decode mt_K_doPump.2.1 84 = .ok (.aload_n 1, 1) := by decide +kernel
theorem dd_K_doPump_85 : decode mt_K_doPump.2.1 85 = .ok (.bipush 16, 2) := by decide +kernel
theorem dd_K_doPump_87 : decode mt_K_doPump.2.1 87 = .ok (.aload_n 3, 1) := by decide +kernel
theorem dd_K_doPump_88 : decode mt_K_doPump.2.1 88 = .ok (.getfield 243, 3) := by decide +kernel
theorem dd_K_doPump_91 : decode mt_K_doPump.2.1 91 = .ok (.invokevirtual 345, 3) := by decide +kernel
theorem dd_K_doPump_94 : decode mt_K_doPump.2.1 94 = .ok (.goto 93, 3) := by decide +kernel
theorem dd_K_doPump_97 : decode mt_K_doPump.2.1 97 = .ok (.aload_n 2, 1) := by decide +kernel
theorem dd_K_doPump_98 : decode mt_K_doPump.2.1 98 = .ok (.getfield 110, 3) := by decide +kernel
theorem dd_K_doPump_101 : decode mt_K_doPump.2.1 101 = .ok (.iconst 1, 1) := by decide +kernel
theorem dd_K_doPump_102 : decode mt_K_doPump.2.1 102 = .ok (.if_icmp .ne 37, 3) := by decide +kernel
theorem dd_K_doPump_105 : decode mt_K_doPump.2.1 105 = .ok (.aload_n 3, 1) := by decide +kernel
theorem dd_K_doPump_106 : decode mt_K_doPump.2.1 106 = .ok (.getfield 155, 3) := by decide +kernel
theorem dd_K_doPump_109 : decode mt_K_doPump.2.1 109 = .ok (.invokevirtual 87, 3) := by decide +kernel
theorem dd_K_doPump_112 : decode mt_K_doPump.2.1 112 = .ok (.ifCond .le 5, 3) := by decide +kernel
theorem dd_K_doPump_115 : decode mt_K_doPump.2.1 115 = .ok (.iconst 0, 1) := by decide +kernel
theorem dd_K_doPump_116 : decode mt_K_doPump.2.1 116 = .ok (.ireturn, 1) := by decide +kernel
theorem dd_K_doPump_117 : decode mt_K_doPump.2.1 117 = .ok (.aload_n 1, 1) := by decide +kernel
theorem dd_K_doPump_118 : decode mt_K_doPump.2.1 118 = .ok (.getfield 352, 3) := by decide +kernel
theorem dd_K_doPump_121 : decode mt_K_doPump.2.1 121 = .ok (.ifCond .ne 7, 3) := by decide +kernel
theorem dd_K_doPump_124 : decode mt_K_doPump.2.1 124 = .ok (.aload_n 3, 1) := by decide +kernel
theorem dd_K_doPump_125 : decode mt_K_doPump.2.1 125 = .ok (.invokevirtual 163, 3) := by decide +kernel
theorem dd_K_doPump_128 : decode mt_K_doPump.2.1 128 = .ok (.aload_n 0, 1) := by decide +kernel
theorem dd_K_doPump_129 : decode mt_K_doPump.2.1 129 = .ok (.aload_n 1, 1) := by decide +kernel
theorem dd_K_doPump_130 : decode mt_K_doPump.2.1 130 = .ok (.bipush 15, 2) := by decide +kernel
theorem dd_K_doPump_132 : decode mt_K_doPump.2.1 132 = .ok (.iconst 0, 1) := by decide +kernel
theorem dd_K_doPump_133 : decode mt_K_doPump.2.1 133 = .ok (.invokevirtual 345, 3) := by decide +kernel
theorem dd_K_doPump_136 : decode mt_K_doPump.2.1 136 = .ok (.goto 51, 3) := by decide +kernel
theorem dd_K_doPump_139 : decode mt_K_doPump.2.1 139 = .ok (.aload_n 3, 1) := by decide +kernel
theorem dd_K_doPump_140 : decode mt_K_doPump.2.1 140 = .ok (.invokevirtual 355, 3) := by decide +kernel
theorem dd_K_doPump_143 : decode mt_K_doPump.2.1 143 = .ok (.ifCond .eq 29, 3) := by decide +kernel
theorem dd_K_doPump_146 : decode mt_K_doPump.2.1 146 = .ok (.aload_n 1, 1) := by decide +kernel
theorem dd_K_doPump_147 : decode mt_K_doPump.2.1 147 = .ok (.getfield 349, 3) := by decide +kernel
theorem dd_K_doPump_150 : decode mt_K_doPump.2.1 150 = .ok (.ifCond .ne 10, 3) := by decide +kernel
theorem dd_K_doPump_153 : decode mt_K_doPump.2.1 153 = .ok (.aload_n 0, 1) := by decide +kernel
theorem dd_K_doPump_154 : decode mt_K_doPump.2.1 154 = .ok (.aload_n 2, 1) := by decide +kernel
theorem dd_K_doPump_155 : decode mt_K_doPump.2.1 155 = .ok (.bipush 100, 2) := by decide +kernel
theorem dd_K_doPump_157 : decode mt_K_doPump.2.1 157 = .ok (.invokevirtual 145, 3) := by decide +kernel
theorem dd_K_doPump_160 : decode mt_K_doPump.2.1 160 = .ok (.aload_n 0, 1) := by decide +kernel
theorem dd_K_doPump_161 : decode mt_K_doPump.2.1 161 = .ok (.aload_n 1, 1) := by decide +kernel
theorem dd_K_doPump_162 : decode mt_K_doPump.2.1 162 = .ok (.bipush 16, 2) := by decide +kernel
theorem dd_K_doPump_164 : decode mt_K_doPump.2.1 164 = .ok (.bipush 100, 2) := by decide +kernel
theorem dd_K_doPump_166 : decode mt_K_doPump.2.1 166 = .ok (.invokevirtual 345, 3) := by decide +kernel
theorem dd_K_doPump_169 : decode mt_K_doPump.2.1 169 = .ok (.goto 18, 3) := by decide +kernel
theorem dd_K_doPump_172 : decode mt_K_doPump.2.1 172 = .ok (.aload_n 1, 1) := by decide +kernel
theorem dd_K_doPump_173 : decode mt_K_doPump.2.1 173 = .ok (.invokevirtual 358, 3) := by decide +kernel
theorem dd_K_doPump_176 : decode mt_K_doPump.2.1 176 = .ok (.ifCond .eq 5, 3) := by decide +kernel
theorem dd_K_doPump_179 : decode mt_K_doPump.2.1 179 = .ok (.iconst 0, 1) := by decide +kernel
theorem dd_K_doPump_180 : decode mt_K_doPump.2.1 180 = .ok (.ireturn, 1) := by decide +kernel
theorem dd_K_doPump_181 : decode mt_K_doPump.2.1 181 = .ok (.aload_n 0, 1) := by decide +kernel
theorem dd_K_doPump_182 : decode mt_K_doPump.2.1 182 = .ok (.aload_n 2, 1) := by decide +kernel
theorem dd_K_doPump_183 : decode mt_K_doPump.2.1 183 = .ok (.iconst 0, 1) := by decide +kernel
theorem dd_K_doPump_184 : decode mt_K_doPump.2.1 184 = .ok (.invokevirtual 142, 3) := by decide +kernel
theorem dd_K_doPump_187 : decode mt_K_doPump.2.1 187 = .ok (.iconst 1, 1) := by decide +kernel
theorem dd_K_doPump_188 : decode mt_K_doPump.2.1 188 = .ok (.ireturn, 1) := by decide +kernel
theorem dd_K_doSettled_0 : decode mt_K_doSettled.2.1 0 = .ok (.aload_n 1, 1) := by decide +kernel
theorem dd_K_doSettled_1 : decode mt_K_doSettled.2.1 1 = .ok (.ifnonnull 4, 3) := by decide +kernel
theorem dd_K_doSettled_4 : decode mt_K_doSettled.2.1 4 = .ok (.return_, 1) := by decide +kernel
theorem dd_K_doSettled_5 : decode mt_K_doSettled.2.1 5 = .ok (.aload_n 1, 1) := by decide +kernel
theorem dd_K_doSettled_6 : decode mt_K_doSettled.2.1 6 = .ok (.iconst 0, 1) := by decide +kernel
theorem dd_K_doSettled_7 : decode mt_K_doSettled.2.1 7 = .ok (.putfield 169, 3) := by decide +kernel
theorem dd_K_doSettled_10 : decode mt_K_doSettled.2.1 10 = .ok (.iload_n 2, 1) := by decide +kernel
theorem dd_K_doSettled_11 : decode mt_K_doSettled.2.1 11 = .ok (.iconst 3, 1) := by decide +kernel
theorem dd_K_doSettled_12 : decode mt_K_doSettled.2.1 12 = .ok (.if_icmp .ne 11, 3) := by decide +kernel
theorem dd_K_doSettled_15 : decode mt_K_doSettled.2.1 15 = .ok (.aload_n 1, 1) := by decide +kernel
theorem dd_K_doSettled_16 : decode mt_K_doSettled.2.1 16 = .ok (.iload_n 3, 1) := by decide +kernel
theorem dd_K_doSettled_17 : decode mt_K_doSettled.2.1 17 = .ok (.invokevirtual 330, 3) := by decide +kernel
theorem dd_K_doSettled_20 : decode mt_K_doSettled.2.1 20 = .ok (.goto 21, 3) := by decide +kernel
theorem dd_K_doSettled_23 : decode mt_K_doSettled.2.1 23 = .ok (.iload_n 2, 1) := by decide +kernel
theorem dd_K_doSettled_24 : decode mt_K_doSettled.2.1 24 = .ok (.iconst 4, 1) := by decide +kernel
theorem dd_K_doSettled_25 : decode mt_K_doSettled.2.1 25 = .ok (.if_icmp .ne 11, 3) := by decide +kernel
theorem dd_K_doSettled_28 : decode mt_K_doSettled.2.1 28 = .ok (.aload_n 1, 1) := by decide +kernel
theorem dd_K_doSettled_29 : decode mt_K_doSettled.2.1 29 = .ok (.iload_n 3, 1) := by decide +kernel
theorem dd_K_doSettled_30 : decode mt_K_doSettled.2.1 30 = .ok (.invokevirtual 333, 3) := by decide +kernel
theorem dd_K_doSettled_33 : decode mt_K_doSettled.2.1 33 = .ok (.goto 8, 3) := by decide +kernel
theorem dd_K_doSettled_36 : decode mt_K_doSettled.2.1 36 = .ok (.aload_n 1, 1) := by decide +kernel
theorem dd_K_doSettled_37 : decode mt_K_doSettled.2.1 37 = .ok (.iload_n 3, 1) := by decide +kernel
theorem dd_K_doSettled_38 : decode mt_K_doSettled.2.1 38 = .ok (.invokevirtual 336, 3) := by decide +kernel
theorem dd_K_doSettled_41 : decode mt_K_doSettled.2.1 41 = .ok (.return_, 1) := by decide +kernel
