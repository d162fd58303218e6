theorem dd_L_init_0 : decode mt_L_init.2.1 0 = .ok (.aload_n 0, 1) := by decide +kernel
theorem dd_L_init_1 : decode mt_L_init.2.1 1 = .ok (.invokespecial 3, 3) := by decide +kernel
theorem dd_L_init_4 : decode mt_L_init.2.1 4 = .ok (.aload_n 0, 1) := by decide +kernel
theorem dd_L_init_5 : decode mt_L_init.2.1 5 = .ok (.bipush 64, 2) := by decide +kernel
theorem dd_L_init_7 : decode mt_L_init.2.1 7 = .ok (.newarray .int, 2) := by decide +kernel
theorem dd_L_init_9 : decode mt_L_init.2.1 9 = .ok (.putfield 9, 3) := by decide +kernel
theorem dd_L_init_12 : decode mt_L_init.2.1 12 = .ok (.aload_n 0, 1) := by decide +kernel
theorem dd_L_init_13 : decode mt_L_init.2.1 13 = .ok (.bipush 64, 2) := by decide +kernel
theorem dd_L_init_15 : decode mt_L_init.2.1 15 = .ok (.newarray .int, 2) := by decide +kernel
theorem dd_L_init_17 : decode mt_L_init.2.1 17 = .ok (.putfield 15, 3) := by decide +kernel
theorem dd_L_init_20 : decode mt_L_init.2.1 20 = .ok (.aload_n 0, 1) := by decide +kernel
theorem dd_L_init_21 : decode mt_L_init.2.1 21 = .ok (.bipush 64, 2) := by decide +kernel
theorem dd_L_init_23 : decode mt_L_init.2.1 23 = .ok (.newarray .int, 2) := by decide +kernel
theorem dd_L_init_25 : decode mt_L_init.2.1 25 = .ok (.putfield 18, 3) := by decide +kernel
theorem dd_L_init_28 : decode mt_L_init.2.1 28 = .ok (.return_, 1) := by decide +kernel
theorem dd_R_init_0 : decode mt_R_init.2.1 0 = .ok (.aload_n 0, 1) := by decide +kernel
theorem dd_R_init_1 : decode mt_R_init.2.1 1 = .ok (.invokespecial 1, 3) := by decide +kernel
theorem dd_R_init_4 : decode mt_R_init.2.1 4 = .ok (.aload_n 0, 1) := by decide +kernel
theorem dd_R_init_5 : decode mt_R_init.2.1 5 = .ok (.iload_n 1, 1) := by decide +kernel
theorem dd_R_init_6 : decode mt_R_init.2.1 6 = .ok (.newarray .int, 2) := by decide +kernel
theorem dd_R_init_8 : decode mt_R_init.2.1 8 = .ok (.putfield 7, 3) := by decide +kernel
theorem dd_R_init_11 : decode mt_R_init.2.1 11 = .ok (.return_, 1) := by decide +kernel
theorem dd_J_init_0 : decode mt_J_init.2.1 0 = .ok (.aload_n 0, 1) := by decide +kernel
theorem dd_J_init_1 : decode mt_J_init.2.1 1 = .ok (.invokespecial 3, 3) := by decide +kernel
theorem dd_J_init_4 : decode mt_J_init.2.1 4 = .ok (.aload_n 0, 1) := by decide +kernel
theorem dd_J_init_5 : decode mt_J_init.2.1 5 = .ok (.new 9, 3) := by decide +kernel
theorem dd_J_init_8 : decode mt_J_init.2.1 8 = .ok (.dup, 1) := by decide +kernel
theorem dd_J_init_9 : decode mt_J_init.2.1 9 = .ok (.bipush 16, 2) := by decide +kernel
theorem dd_J_init_11 : decode mt_J_init.2.1 11 = .ok (.invokespecial 11, 3) := by decide +kernel
theorem dd_J_init_14 : decode mt_J_init.2.1 14 = .ok (.putfield 14, 3) := by decide +kernel
theorem dd_J_init_17 : decode mt_J_init.2.1 17 = .ok (.aload_n 0, 1) := by decide +kernel
theorem dd_J_init_18 : decode mt_J_init.2.1 18 = .ok (.new 9, 3) := by decide +kernel
theorem dd_J_init_21 : decode mt_J_init.2.1 21 = .ok (.dup, 1) := by decide +kernel
theorem dd_J_init_22 : decode mt_J_init.2.1 22 = .ok (.bipush 16, 2) := by decide +kernel
theorem dd_J_init_24 : decode mt_J_init.2.1 24 = .ok (.invokespecial 11, 3) := by decide +kernel
theorem dd_J_init_27 : decode mt_J_init.2.1 27 = .ok (.putfield 20, 3) := by decide +kernel
theorem dd_J_init_30 : decode mt_J_init.2.1 30 = .ok (.aload_n 0, 1) := by decide +kernel
theorem dd_J_init_31 : decode mt_J_init.2.1 31 = .ok (.new 9, 3) := by decide +kernel
theorem dd_J_init_34 : decode mt_J_init.2.1 34 = .ok (.dup, 1) := by decide +kernel
theorem dd_J_init_35 : decode mt_J_init.2.1 35 = .ok (.bipush 16, 2) := by decide +kernel
theorem dd_J_init_37 : decode mt_J_init.2.1 37 = .ok (.invokespecial 11, 3) := by decide +kernel
theorem dd_J_init_40 : decode mt_J_init.2.1 40 = .ok (.putfield 23, 3) := by decide +kernel
theorem dd_J_init_43 : decode mt_J_init.2.1 43 = .ok (.return_, 1) := by decide +kernel
theorem dd_C_init_0 : decode mt_C_init.2.1 0 = .ok (.aload_n 0, 1) := by decide +kernel
theorem dd_C_init_1 : decode mt_C_init.2.1 1 = .ok (.invokespecial 3, 3) := by decide +kernel
theorem dd_C_init_4 : decode mt_C_init.2.1 4 = .ok (.aload_n 0, 1) := by decide +kernel
theorem dd_C_init_5 : decode mt_C_init.2.1 5 = .ok (.new 9, 3) := by decide +kernel
theorem dd_C_init_8 : decode mt_C_init.2.1 8 = .ok (.dup, 1) := by decide +kernel
theorem dd_C_init_9 : decode mt_C_init.2.1 9 = .ok (.bipush 16, 2) := by decide +kernel
theorem dd_C_init_11 : decode mt_C_init.2.1 11 = .ok (.invokespecial 11, 3) := by decide +kernel
theorem dd_C_init_14 : decode mt_C_init.2.1 14 = .ok (.putfield 14, 3) := by decide +kernel
theorem dd_C_init_17 : decode mt_C_init.2.1 17 = .ok (.aload_n 0, 1) := by decide +kernel
theorem dd_C_init_18 : decode mt_C_init.2.1 18 = .ok (.iload_n 1, 1) := by decide +kernel
theorem dd_C_init_19 : decode mt_C_init.2.1 19 = .ok (.putfield 20, 3) := by decide +kernel
theorem dd_C_init_22 : decode mt_C_init.2.1 22 = .ok (.aload_n 0, 1) := by decide +kernel
theorem dd_C_init_23 : decode mt_C_init.2.1 23 = .ok (.iload_n 2, 1) := by decide +kernel
theorem dd_C_init_24 : decode mt_C_init.2.1 24 = .ok (.putfield 24, 3) := by decide +kernel
theorem dd_C_init_27 : decode mt_C_init.2.1 27 = .ok (.aload_n 0, 1) := by decide +kernel
theorem dd_C_init_28 : decode mt_C_init.2.1 28 = .ok (.iload_n 1, 1) := by decide +kernel
theorem dd_C_init_29 : decode mt_C_init.2.1 29 = .ok (.putfield 28, 3) := by decide +kernel
theorem dd_C_init_32 : decode mt_C_init.2.1 32 = .ok (.return_, 1) := by decide +kernel
theorem dd_L_note_0 : decode mt_L_note.2.1 0 = .ok (.aload_n 0, 1) := by decide +kernel
theorem dd_L_note_1 : decode mt_L_note.2.1 1 = .ok (.getfield 21, 3) := by decide +kernel
theorem dd_L_note_4 : decode mt_L_note.2.1 4 = .ok (.bipush 63, 2) := by decide +kernel
theorem dd_L_note_6 : decode mt_L_note.2.1 6 = .ok (.iand, 1) := by decide +kernel
theorem dd_L_note_7 : decode mt_L_note.2.1 7 = .ok (.istore 5, 2) := by decide +kernel
theorem dd_L_note_9 : decode mt_L_note.2.1 9 = .ok (.aload_n 0, 1) := by decide +kernel
theorem dd_L_note_10 : decode mt_L_note.2.1 10 = .ok (.getfield 9, 3) := by decide +kernel
theorem dd_L_note_13 : decode mt_L_note.2.1 13 = .ok (.iload 5, 2) := by decide +kernel
theorem dd_L_note_15 : decode mt_L_note.2.1 15 = .ok (.iload_n 1, 1) := by decide +kernel
theorem dd_L_note_16 : decode mt_L_note.2.1 16 = .ok (.bipush 32, 2) := by decide +kernel
theorem dd_L_note_18 : decode mt_L_note.2.1 18 = .ok (.iload_n 2, 1) := by decide +kernel
theorem dd_L_note_19 : decode mt_L_note.2.1 19 = .ok (.imul, 1) := by decide +kernel
theorem dd_L_note_20 : decode mt_L_note.2.1 20 = .ok (.iadd, 1) := by decide +kernel
theorem dd_L_note_21 : decode mt_L_note.2.1 21 = .ok (.iastore, 1) := by decide +kernel
theorem dd_L_note_22 : decode mt_L_note.2.1 22 = .ok (.aload_n 0, 1) := by decide +kernel
theorem dd_L_note_23 : decode mt_L_note.2.1 23 = .ok (.getfield 15, 3) := by decide +kernel
theorem dd_L_note_26 : decode mt_L_note.2.1 26 = .ok (.iload 5, 2) := by decide +kernel
theorem dd_L_note_28 : decode mt_L_note.2.1 28 = .ok (.iload_n 3, 1) := by decide +kernel
theorem dd_L_note_29 : decode mt_L_note.2.1 29 = .ok (.iastore, 1) := by decide +kernel
theorem dd_L_note_30 : decode mt_L_note.2.1 30 = .ok (.aload_n 0, 1) := by decide +kernel
theorem dd_L_note_31 : decode mt_L_note.2.1 31 = .ok (.getfield 18, 3) := by decide +kernel
theorem dd_L_note_34 : decode mt_L_note.2.1 34 = .ok (.iload 5, 2) := by decide +kernel
theorem dd_L_note_36 : decode mt_L_note.2.1 36 = .ok (.iload 4, 2) := by decide +kernel
theorem dd_L_note_38 : decode mt_L_note.2.1 38 = .ok (.iastore, 1) := by decide +kernel
theorem dd_L_note_39 : decode mt_L_note.2.1 39 = .ok (.aload_n 0, 1) := by decide +kernel
theorem dd_L_note_40 : decode mt_L_note.2.1 40 = .ok (.dup, 1) := by decide +kernel
theorem dd_L_note_41 : decode mt_L_note.2.1 41 = .ok (.getfield 21, 3) := by decide +kernel
theorem dd_L_note_44 : decode mt_L_note.2.1 44 = .ok (.iconst 1, 1) := by decide +kernel
theorem dd_L_note_45 : decode mt_L_note.2.1 45 = .ok (.iadd, 1) := by decide +kernel
theorem dd_L_note_46 : decode mt_L_note.2.1 46 = .ok (.putfield 21, 3) := by decide +kernel
theorem dd_L_note_49 : decode mt_L_note.2.1 49 = .ok (.return_, 1) := by decide +kernel
theorem dd_C_count_0 : decode mt_C_count.2.1 0 = .ok (.aload_n 0, 1) := by decide +kernel
theorem dd_C_count_1 : decode mt_C_count.2.1 1 = .ok (.getfield 14, 3) := by decide +kernel
theorem dd_C_count_4 : decode mt_C_count.2.1 4 = .ok (.getfield 31, 3) := by decide +kernel
theorem dd_C_count_7 : decode mt_C_count.2.1 7 = .ok (.ireturn, 1) := by decide +kernel
theorem dd_R_takeFirst_0 : decode mt_R_takeFirst.2.1 0 = .ok (.aload_n 0, 1) := by decide +kernel
theorem dd_R_takeFirst_1 : decode mt_R_takeFirst.2.1 1 = .ok (.getfield 13, 3) := by decide +kernel
theorem dd_R_takeFirst_4 : decode mt_R_takeFirst.2.1 4 = .ok (.ifCond .ne 5, 3) := by decide +kernel
theorem dd_R_takeFirst_7 : decode mt_R_takeFirst.2.1 7 = .ok (.iconst 0, 1) := by decide +kernel
theorem dd_R_takeFirst_8 : decode mt_R_takeFirst.2.1 8 = .ok (.ireturn, 1) := by decide +kernel
theorem dd_R_takeFirst_9 : decode mt_R_takeFirst.2.1 9 = .ok (.aload_n 0, 1) := by decide +kernel
theorem dd_R_takeFirst_10 : decode mt_R_takeFirst.2.1 10 = .ok (.getfield 7, 3) := by decide +kernel
theorem dd_R_takeFirst_13 : decode mt_R_takeFirst.2.1 13 = .ok (.aload_n 0, 1) := by decide +kernel
theorem dd_R_takeFirst_14 : decode mt_R_takeFirst.2.1 14 = .ok (.getfield 17, 3) := by decide +kernel
theorem dd_R_takeFirst_17 : decode mt_R_takeFirst.2.1 17 = .ok (.iaload, 1) := by decide +kernel
theorem dd_R_takeFirst_18 : decode mt_R_takeFirst.2.1 18 = .ok (.istore_n 1, 1) := by decide +kernel
theorem dd_R_takeFirst_19 : decode mt_R_takeFirst.2.1 19 = .ok (.aload_n 0, 1) := by decide +kernel
theorem dd_R_takeFirst_20 : decode mt_R_takeFirst.2.1 20 = .ok (.aload_n 0, 1) := by decide +kernel
theorem dd_R_takeFirst_21 : decode mt_R_takeFirst.2.1 21 = .ok (.getfield 17, 3) := by decide +kernel
theorem dd_R_takeFirst_24 : decode mt_R_takeFirst.2.1 24 = .ok (.iconst 1, 1) := by decide +kernel
theorem dd_R_takeFirst_25 : decode mt_R_takeFirst.2.1 25 = .ok (.iadd, 1) := by decide +kernel
theorem dd_R_takeFirst_26 : decode mt_R_takeFirst.2.1 26 = .ok (.aload_n 0, 1) := by decide +kernel
theorem dd_R_takeFirst_27 : decode mt_R_takeFirst.2.1 27 = .ok (.getfield 7, 3) := by decide +kernel
theorem dd_R_takeFirst_30 : decode mt_R_takeFirst.2.1 30 = .ok (.arraylength, 1) := by decide +kernel
theorem dd_R_takeFirst_31 : decode mt_R_takeFirst.2.1 31 = .ok (.irem, 1) := by decide +kernel
theorem dd_R_takeFirst_32 : decode mt_R_takeFirst.2.1 32 = .ok (.putfield 17, 3) := by decide +kernel
theorem dd_R_takeFirst_35 : decode mt_R_takeFirst.2.1 35 = .ok (.aload_n 0, 1) := by decide +kernel
theorem dd_R_takeFirst_36 : decode mt_R_takeFirst.2.1 36 = .ok (.dup, 1) := by decide +kernel
theorem dd_R_takeFirst_37 : decode mt_R_takeFirst.2.1 37 = .ok (.getfield 13, 3) := by decide +kernel
theorem dd_R_takeFirst_40 : decode mt_R_takeFirst.2.1 40 = .ok (.iconst 1, 1) := by decide +kernel
theorem dd_R_takeFirst_41 : decode mt_R_takeFirst.2.1 41 = .ok (.isub, 1) := by decide +kernel
theorem dd_R_takeFirst_42 : decode mt_R_takeFirst.2.1 42 = .ok (.putfield 13, 3) := by decide +kernel
theorem dd_R_takeFirst_45 : decode mt_R_takeFirst.2.1 45 = .ok (.iload_n 1, 1) := by decide +kernel
theorem dd_R_takeFirst_46 : decode mt_R_takeFirst.2.1 46 = .ok (.ireturn, 1) := by decide +kernel
theorem dd_C_sizeOf_0 : decode mt_C_sizeOf.2.1 0 = .ok (.aload_n 0, 1) := by decide +kernel
theorem dd_C_sizeOf_1 : decode mt_C_sizeOf.2.1 1 = .ok (.getfield 24, 3) := by decide +kernel
theorem dd_C_sizeOf_4 : decode mt_C_sizeOf.2.1 4 = .ok (.ifCond .eq 10, 3) := by decide +kernel
theorem dd_C_sizeOf_7 : decode mt_C_sizeOf.2.1 7 = .ok (.iload_n 1, 1) := by decide +kernel
theorem dd_C_sizeOf_8 : decode mt_C_sizeOf.2.1 8 = .ok (.bipush 7, 2) := by decide +kernel
theorem dd_C_sizeOf_10 : decode mt_C_sizeOf.2.1 10 = .ok (.iand, 1) := by decide +kernel
theorem dd_C_sizeOf_11 : decode mt_C_sizeOf.2.1 11 = .ok (.goto 4, 3) := by decide +kernel
theorem dd_C_sizeOf_14 : decode mt_C_sizeOf.2.1 14 = .ok (.iconst 1, 1) := by decide +kernel
theorem dd_C_sizeOf_15 : decode mt_C_sizeOf.2.1 15 = .ok (.ireturn, 1) := by decide +kernel
theorem dd_C_takeFirst_0 : decode mt_C_takeFirst.2.1 0 = .ok (.aload_n 0, 1) := by decide +kernel
theorem dd_C_takeFirst_1 : decode mt_C_takeFirst.2.1 1 = .ok (.getfield 14, 3) := by decide +kernel
theorem dd_C_takeFirst_4 : decode mt_C_takeFirst.2.1 4 = .ok (.invokevirtual 41, 3) := by decide +kernel
theorem dd_C_takeFirst_7 : decode mt_C_takeFirst.2.1 7 = .ok (.istore_n 1, 1) := by decide +kernel
theorem dd_C_takeFirst_8 : decode mt_C_takeFirst.2.1 8 = .ok (.aload_n 0, 1) := by decide +kernel
theorem dd_C_takeFirst_9 : decode mt_C_takeFirst.2.1 9 = .ok (.dup, 1) := by decide +kernel
theorem dd_C_takeFirst_10 : decode mt_C_takeFirst.2.1 10 = .ok (.getfield 28, 3) := by decide +kernel
theorem dd_C_takeFirst_13 : decode mt_C_takeFirst.2.1 13 = .ok (.aload_n 0, 1) := by decide +kernel
theorem dd_C_takeFirst_14 : decode mt_C_takeFirst.2.1 14 = .ok (.iload_n 1, 1) := by decide +kernel
theorem dd_C_takeFirst_15 : decode mt_C_takeFirst.2.1 15 = .ok (.invokevirtual 37, 3) := by decide +kernel
theorem dd_C_takeFirst_18 : decode mt_C_takeFirst.2.1 18 = .ok (.iadd, 1) := by decide +kernel
theorem dd_C_takeFirst_19 : decode mt_C_takeFirst.2.1 19 = .ok (.putfield 28, 3) := by decide +kernel
theorem dd_C_takeFirst_22 : decode mt_C_takeFirst.2.1 22 = .ok (.iload_n 1, 1) := by decide +kernel
theorem dd_C_takeFirst_23 : decode mt_C_takeFirst.2.1 23 = .ok (.ireturn, 1) := by decide +kernel
theorem dd_R_add_0 : decode mt_R_add.2.1 0 = .ok (.aload_n 0, 1) := by decide +kernel
theorem dd_R_add_1 : decode mt_R_add.2.1 1 = .ok (.getfield 13, 3) := by decide +kernel
theorem dd_R_add_4 : decode mt_R_add.2.1 4 = .ok (.aload_n 0, 1) := by decide +kernel
theorem dd_R_add_5 : decode mt_R_add.2.1 5 = .ok (.getfield 7, 3) := by decide +kernel
theorem dd_R_add_8 : decode mt_R_add.2.1 8 = .ok (.arraylength, 1) := by decide +kernel
theorem dd_R_add_9 : decode mt_R_add.2.1 9 = .ok (.if_icmp .ge 34, 3) := by decide +kernel
theorem dd_R_add_12 : decode mt_R_add.2.1 12 = .ok (.aload_n 0, 1) := by decide +kernel
theorem dd_R_add_13 : decode mt_R_add.2.1 13 = .ok (.getfield 7, 3) := by decide +kernel
theorem dd_R_add_16 : decode mt_R_add.2.1 16 = .ok (.aload_n 0, 1) := by decide +kernel
theorem dd_R_add_17 : decode mt_R_add.2.1 17 = .ok (.getfield 17, 3) := by decide +kernel
theorem dd_R_add_20 : decode mt_R_add.2.1 20 = .ok (.aload_n 0, 1) := by decide +kernel
theorem dd_R_add_21 : decode mt_R_add.2.1 21 = .ok (.getfield 13, 3) := by decide +kernel
theorem dd_R_add_24 : decode mt_R_add.2.1 24 = .ok (.iadd, 1) := by decide +kernel
theorem dd_R_add_25 : decode mt_R_add.2.1 25 = .ok (.aload_n 0, 1) := by decide +kernel
theorem dd_R_add_26 : decode mt_R_add.2.1 26 = .ok (.getfield 7, 3) := by decide +kernel
theorem dd_R_add_29 : decode mt_R_add.2.1 29 = .ok (.arraylength, 1) := by decide +kernel
theorem dd_R_add_30 : decode mt_R_add.2.1 30 = .ok (.irem, 1) := by decide +kernel
theorem dd_R_add_31 : decode mt_R_add.2.1 31 = .ok (.iload_n 1, 1) := by decide +kernel
theorem dd_R_add_32 : decode mt_R_add.2.1 32 = .ok (.iastore, 1) := by decide +kernel
theorem dd_R_add_33 : decode mt_R_add.2.1 33 = .ok (.aload_n 0, 1) := by decide +kernel
theorem dd_R_add_34 : decode mt_R_add.2.1 34 = .ok (.dup, 1) := by decide +kernel
theorem dd_R_add_35 : decode mt_R_add.2.1 35 = .ok (.getfield 13, 3) := by decide +kernel
theorem dd_R_add_38 : decode mt_R_add.2.1 38 = .ok (.iconst 1, 1) := by decide +kernel
theorem dd_R_add_39 : decode mt_R_add.2.1 39 = .ok (.iadd, 1) := by decide +kernel
theorem dd_R_add_40 : decode mt_R_add.2.1 40 = .ok (.putfield 13, 3) := by decide +kernel
theorem dd_R_add_43 : decode mt_R_add.2.1 43 = .ok (.return_, 1) := by decide +kernel
theorem dd_J_add_0 : decode mt_J_add.2.1 0 = .ok (.aload_n 0, 1) := by decide +kernel
theorem dd_J_add_1 : decode mt_J_add.2.1 1 = .ok (.getfield 14, 3) := by decide +kernel
theorem dd_J_add_4 : decode mt_J_add.2.1 4 = .ok (.iload_n 1, 1) := by decide +kernel
theorem dd_J_add_5 : decode mt_J_add.2.1 5 = .ok (.invokevirtual 30, 3) := by decide +kernel
theorem dd_J_add_8 : decode mt_J_add.2.1 8 = .ok (.aload_n 0, 1) := by decide +kernel
theorem dd_J_add_9 : decode mt_J_add.2.1 9 = .ok (.getfield 20, 3) := by decide +kernel
theorem dd_J_add_12 : decode mt_J_add.2.1 12 = .ok (.iload_n 2, 1) := by decide +kernel
theorem dd_J_add_13 : decode mt_J_add.2.1 13 = .ok (.invokevirtual 30, 3) := by decide +kernel
theorem dd_J_add_16 : decode mt_J_add.2.1 16 = .ok (.aload_n 0, 1) := by decide +kernel
theorem dd_J_add_17 : decode mt_J_add.2.1 17 = .ok (.getfield 23, 3) := by decide +kernel
theorem dd_J_add_20 : decode mt_J_add.2.1 20 = .ok (.iload_n 3, 1) := by decide +kernel
theorem dd_J_add_21 : decode mt_J_add.2.1 21 = .ok (.invokevirtual 30, 3) := by decide +kernel
theorem dd_J_add_24 : decode mt_J_add.2.1 24 = .ok (.return_, 1) := by decide +kernel
theorem dd_R_at_0 : decode mt_R_at.2.1 0 = .ok (.iload_n 1, 1) := by decide +kernel
theorem dd_R_at_1 : decode mt_R_at.2.1 1 = .ok (.ifCond .lt 31, 3) := by decide +kernel
theorem dd_R_at_4 : decode mt_R_at.2.1 4 = .ok (.iload_n 1, 1) := by decide +kernel
theorem dd_R_at_5 : decode mt_R_at.2.1 5 = .ok (.aload_n 0, 1) := by decide +kernel
theorem dd_R_at_6 : decode mt_R_at.2.1 6 = .ok (.getfield 13, 3) := by decide +kernel
theorem dd_R_at_9 : decode mt_R_at.2.1 9 = .ok (.if_icmp .ge 23, 3) := by decide +kernel
theorem dd_R_at_12 : decode mt_R_at.2.1 12 = .ok (.aload_n 0, 1) := by decide +kernel
theorem dd_R_at_13 : decode mt_R_at.2.1 13 = .ok (.getfield 7, 3) := by decide +kernel
theorem dd_R_at_16 : decode mt_R_at.2.1 16 = .ok (.aload_n 0, 1) := by decide +kernel
theorem dd_R_at_17 : decode mt_R_at.2.1 17 = .ok (.getfield 17, 3) := by decide +kernel
theorem dd_R_at_20 : decode mt_R_at.2.1 20 = .ok (.iload_n 1, 1) := by decide +kernel
theorem dd_R_at_21 : decode mt_R_at.2.1 21 = .ok (.iadd, 1) := by decide +kernel
theorem dd_R_at_22 : decode mt_R_at.2.1 22 = .ok (.aload_n 0, 1) := by decide +kernel
theorem dd_R_at_23 : decode mt_R_at.2.1 23 = .ok (.getfield 7, 3) := by decide +kernel
theorem dd_R_at_26 : decode mt_R_at.2.1 26 = .ok (.arraylength, 1) := by decide +kernel
theorem dd_R_at_27 : decode mt_R_at.2.1 27 = .ok (.irem, 1) := by decide +kernel
theorem dd_R_at_28 : decode mt_R_at.2.1 28 = .ok (.iaload, 1) := by decide +kernel
theorem dd_R_at_29 : decode mt_R_at.2.1 29 = .ok (.goto 4, 3) := by decide +kernel
theorem dd_R_at_32 : decode mt_R_at.2.1 32 = .ok (.iconst 0, 1) := by decide +kernel
theorem dd_R_at_33 : decode mt_R_at.2.1 33 = .ok (.ireturn, 1) := by decide +kernel
theorem dd_R_clear_0 : decode mt_R_clear.2.1 0 = .ok (.aload_n 0, 1) := by decide +kernel
theorem dd_R_clear_1 : decode mt_R_clear.2.1 1 = .ok (.iconst 0, 1) := by decide +kernel
theorem dd_R_clear_2 : decode mt_R_clear.2.1 2 = .ok (.putfield 13, 3) := by decide +kernel
theorem dd_R_clear_5 : decode mt_R_clear.2.1 5 = .ok (.return_, 1) := by decide +kernel
theorem dd_J_holds_0 : decode mt_J_holds.2.1 0 = .ok (.iconst 0, 1) := by decide +kernel
theorem dd_J_holds_1 : decode mt_J_holds.2.1 1 = .ok (.istore_n 3, 1) := by decide +kernel
theorem dd_J_holds_2 : decode mt_J_holds.2.1 2 = .ok (.iload_n 3, 1) := by decide +kernel
theorem dd_J_holds_3 : decode mt_J_holds.2.1 3 = .ok (.aload_n 0, 1) := by decide +kernel
theorem dd_J_holds_4 : decode mt_J_holds.2.1 4 = .ok (.getfield 14, 3) := by decide +kernel
theorem dd_J_holds_7 : decode mt_J_holds.2.1 7 = .ok (.getfield 26, 3) := by decide +kernel
theorem dd_J_holds_10 : decode mt_J_holds.2.1 10 = .ok (.if_icmp .ge 35, 3) := by decide +kernel
theorem dd_J_holds_13 : decode mt_J_holds.2.1 13 = .ok (.aload_n 0, 1) := by decide +kernel
theorem dd_J_holds_14 : decode mt_J_holds.2.1 14 = .ok (.getfield 14, 3) := by decide +kernel
theorem dd_J_holds_17 : decode mt_J_holds.2.1 17 = .ok (.iload_n 3, 1) := by decide +kernel
theorem dd_J_holds_18 : decode mt_J_holds.2.1 18 = .ok (.invokevirtual 33, 3) := by decide +kernel
theorem dd_J_holds_21 : decode mt_J_holds.2.1 21 = .ok (.iload_n 1, 1) := by decide +kernel
theorem dd_J_holds_22 : decode mt_J_holds.2.1 22 = .ok (.if_icmp .ne 17, 3) := by decide +kernel
theorem dd_J_holds_25 : decode mt_J_holds.2.1 25 = .ok (.aload_n 0, 1) := by decide +kernel
theorem dd_J_holds_26 : decode mt_J_holds.2.1 26 = .ok (.getfield 20, 3) := by decide +kernel
theorem dd_J_holds_29 : decode mt_J_holds.2.1 29 = .ok (.iload_n 3, 1) := by decide +kernel
theorem dd_J_holds_30 : decode mt_J_holds.2.1 30 = .ok (.invokevirtual 33, 3) := by decide +kernel
theorem dd_J_holds_33 : decode mt_J_holds.2.1 33 = .ok (.iload_n 2, 1) := by decide +kernel
theorem dd_J_holds_34 : decode mt_J_holds.2.1 34 = .ok (.if_icmp .ne 5, 3) := by decide +kernel
theorem dd_J_holds_37 : decode mt_J_holds.2.1 37 = .ok (.iconst 1, 1) := by decide +kernel
theorem dd_J_holds_38 : decode mt_J_holds.2.1 38 = .ok (.ireturn, 1) := by decide +kernel
theorem dd_J_holds_39 : decode mt_J_holds.2.1 39 = .ok (.iinc 3 1, 3) := by decide +kernel
theorem dd_J_holds_42 : decode mt_J_holds.2.1 42 = .ok (.goto (-40), 3) := by decide +kernel
theorem dd_J_holds_45 : decode mt_J_holds.2.1 45 = .ok (.iconst 0, 1) := by decide +kernel
theorem dd_J_holds_46 : decode mt_J_holds.2.1 46 = .ok (.ireturn, 1) := by decide +kernel
theorem dd_C_add_0 : decode mt_C_add.2.1 0 = .ok (.aload_n 0, 1) := by decide +kernel
theorem dd_C_add_1 : decode mt_C_add.2.1 1 = .ok (.getfield 14, 3) := by decide +kernel
theorem dd_C_add_4 : decode mt_C_add.2.1 4 = .ok (.iload_n 1, 1) := by decide +kernel
theorem dd_C_add_5 : decode mt_C_add.2.1 5 = .ok (.invokevirtual 34, 3) := by decide +kernel
theorem dd_C_add_8 : decode mt_C_add.2.1 8 = .ok (.aload_n 0, 1) := by decide +kernel
theorem dd_C_add_9 : decode mt_C_add.2.1 9 = .ok (.dup, 1) := by decide +kernel
theorem dd_C_add_10 : decode mt_C_add.2.1 10 = .ok (.getfield 28, 3) := by decide +kernel
theorem dd_C_add_13 : decode mt_C_add.2.1 13 = .ok (.aload_n 0, 1) := by decide +kernel
theorem dd_C_add_14 : decode mt_C_add.2.1 14 = .ok (.iload_n 1, 1) := by decide +kernel
theorem dd_C_add_15 : decode mt_C_add.2.1 15 = .ok (.invokevirtual 37, 3) := by decide +kernel
theorem dd_C_add_18 : decode mt_C_add.2.1 18 = .ok (.isub, 1) := by decide +kernel
theorem dd_C_add_19 : decode mt_C_add.2.1 19 = .ok (.putfield 28, 3) := by decide +kernel
theorem dd_C_add_22 : decode mt_C_add.2.1 22 = .ok (.return_, 1) := by decide +kernel
theorem dd_C_clear_0 : decode mt_C_clear.2.1 0 = .ok (.aload_n 0, 1) := by decide +kernel
theorem dd_C_clear_1 : decode mt_C_clear.2.1 1 = .ok (.getfield 14, 3) := by decide +kernel
theorem dd_C_clear_4 : decode mt_C_clear.2.1 4 = .ok (.invokevirtual 45, 3) := by decide +kernel
theorem dd_C_clear_7 : decode mt_C_clear.2.1 7 = .ok (.aload_n 0, 1) := by decide +kernel
theorem dd_C_clear_8 : decode mt_C_clear.2.1 8 = .ok (.aload_n 0, 1) := by decide +kernel
theorem dd_C_clear_9 : decode mt_C_clear.2.1 9 = .ok (.getfield 20, 3) := by decide +kernel
theorem dd_C_clear_12 : decode mt_C_clear.2.1 12 = .ok (.putfield 28, 3) := by decide +kernel
theorem dd_C_clear_15 : decode mt_C_clear.2.1 15 = .ok (.return_, 1) := by decide +kernel
theorem dd_J_count_0 : decode mt_J_count.2.1 0 = .ok (.aload_n 0, 1) := by decide +kernel
theorem dd_J_count_1 : decode mt_J_count.2.1 1 = .ok (.getfield 14, 3) := by decide +kernel
theorem dd_J_count_4 : decode mt_J_count.2.1 4 = .ok (.getfield 26, 3) := by decide +kernel
theorem dd_J_count_7 : decode mt_J_count.2.1 7 = .ok (.ireturn, 1) := by decide +kernel
theorem dd_L_tell_0 : decode mt_L_tell.2.1 0 = .ok (.iload_n 1, 1) := by decide +kernel
theorem dd_L_tell_1 : decode mt_L_tell.2.1 1 = .ok (.ifCond .lt 22, 3) := by decide +kernel
theorem dd_L_tell_4 : decode mt_L_tell.2.1 4 = .ok (.iload_n 1, 1) := by decide +kernel
theorem dd_L_tell_5 : decode mt_L_tell.2.1 5 = .ok (.aload_n 0, 1) := by decide +kernel
theorem dd_L_tell_6 : decode mt_L_tell.2.1 6 = .ok (.getfield 21, 3) := by decide +kernel
theorem dd_L_tell_9 : decode mt_L_tell.2.1 9 = .ok (.if_icmp .ge 14, 3) := by decide +kernel
theorem dd_L_tell_12 : decode mt_L_tell.2.1 12 = .ok (.iload_n 1, 1) := by decide +kernel
theorem dd_L_tell_13 : decode mt_L_tell.2.1 13 = .ok (.aload_n 0, 1) := by decide +kernel
theorem dd_L_tell_14 : decode mt_L_tell.2.1 14 = .ok (.getfield 21, 3) := by decide +kernel
theorem dd_L_tell_17 : decode mt_L_tell.2.1 17 = .ok (.bipush 64, 2) := by decide +kernel
theorem dd_L_tell_19 : decode mt_L_tell.2.1 19 = .ok (.isub, 1) := by decide +kernel
theorem dd_L_tell_20 : decode mt_L_tell.2.1 20 = .ok (.if_icmp .ge 5, 3) := by decide +kernel
theorem dd_L_tell_23 : decode mt_L_tell.2.1 23 = .ok (.iconst 0, 1) := by decide +kernel
theorem dd_L_tell_24 : decode mt_L_tell.2.1 24 = .ok (.ireturn, 1) := by decide +kernel
theorem dd_L_tell_25 : decode mt_L_tell.2.1 25 = .ok (.iload_n 1, 1) := by decide +kernel
theorem dd_L_tell_26 : decode mt_L_tell.2.1 26 = .ok (.bipush 63, 2) := by decide +kernel
theorem dd_L_tell_28 : decode mt_L_tell.2.1 28 = .ok (.iand, 1) := by decide +kernel
theorem dd_L_tell_29 : decode mt_L_tell.2.1 29 = .ok (.istore_n 3, 1) := by decide +kernel
theorem dd_L_tell_30 : decode mt_L_tell.2.1 30 = .ok (.iload_n 2, 1) := by decide +kernel
theorem dd_L_tell_31 : decode mt_L_tell.2.1 31 = .ok (.tableswitch 46 0 2 #[25, 32, 39], 25) := by decide +kernel
theorem dd_L_tell_56 : decode mt_L_tell.2.1 56 = .ok (.aload_n 0, 1) := by decide +kernel
theorem dd_L_tell_57 : decode mt_L_tell.2.1 57 = .ok (.getfield 9, 3) := by decide +kernel
theorem dd_L_tell_60 : decode mt_L_tell.2.1 60 = .ok (.iload_n 3, 1) := by decide +kernel
theorem dd_L_tell_61 : decode mt_L_tell.2.1 61 = .ok (.iaload, 1) := by decide +kernel
theorem dd_L_tell_62 : decode mt_L_tell.2.1 62 = .ok (.ireturn, 1) := by decide +kernel
theorem dd_L_tell_63 : decode mt_L_tell.2.1 63 = .ok (.aload_n 0, 1) := by decide +kernel
theorem dd_L_tell_64 : decode mt_L_tell.2.1 64 = .ok (.getfield 15, 3) := by decide +kernel
theorem dd_L_tell_67 : decode mt_L_tell.2.1 67 = .ok (.iload_n 3, 1) := by decide +kernel
theorem dd_L_tell_68 : decode mt_L_tell.2.1 68 = .ok (.iaload, 1) := by decide +kernel
theorem dd_L_tell_69 : decode mt_L_tell.2.1 69 = .ok (.ireturn, 1) := by decide +kernel
theorem dd_L_tell_70 : decode mt_L_tell.2.1 70 = .ok (.aload_n 0, 1) := by decide +kernel
theorem dd_L_tell_71 : decode mt_L_tell.2.1 71 = .ok (.getfield 18, 3) := by decide +kernel
theorem dd_L_tell_74 : decode mt_L_tell.2.1 74 = .ok (.iload_n 3, 1) := by decide +kernel
theorem dd_L_tell_75 : decode mt_L_tell.2.1 75 = .ok (.iaload, 1) := by decide +kernel
theorem dd_L_tell_76 : decode mt_L_tell.2.1 76 = .ok (.ireturn, 1) := by decide +kernel
theorem dd_L_tell_77 : decode mt_L_tell.2.1 77 = .ok (.iconst 0, 1) := by decide +kernel
theorem dd_L_tell_78 : decode mt_L_tell.2.1 78 = .ok (.ireturn, 1) := by decide +kernel
