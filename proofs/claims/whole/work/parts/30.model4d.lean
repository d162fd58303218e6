theorem dd_M_pipe_0 : decode mt_M_pipe.2.1 0 = .ok (.aload_n 0, 1) := by decide +kernel
theorem dd_M_pipe_1 : decode mt_M_pipe.2.1 1 = .ok (.iload_n 1, 1) := by decide +kernel
theorem dd_M_pipe_2 : decode mt_M_pipe.2.1 2 = .ok (.invokevirtual 295, 3) := by decide +kernel
theorem dd_M_pipe_5 : decode mt_M_pipe.2.1 5 = .ok (.ifCond .ne 21, 3) := by decide +kernel
theorem dd_M_pipe_8 : decode mt_M_pipe.2.1 8 = .ok (.aload_n 0, 1) := by decide +kernel
theorem dd_M_pipe_9 : decode mt_M_pipe.2.1 9 = .ok (.iload_n 2, 1) := by decide +kernel
theorem dd_M_pipe_10 : decode mt_M_pipe.2.1 10 = .ok (.invokevirtual 308, 3) := by decide +kernel
theorem dd_M_pipe_13 : decode mt_M_pipe.2.1 13 = .ok (.ifCond .ne 13, 3) := by decide +kernel
theorem dd_M_pipe_16 : decode mt_M_pipe.2.1 16 = .ok (.iload_n 3, 1) := by decide +kernel
theorem dd_M_pipe_17 : decode mt_M_pipe.2.1 17 = .ok (.ifCond .lt 9, 3) := by decide +kernel
theorem dd_M_pipe_20 : decode mt_M_pipe.2.1 20 = .ok (.iload_n 3, 1) := by decide +kernel
theorem dd_M_pipe_21 : decode mt_M_pipe.2.1 21 = .ok (.bipush 7, 2) := by decide +kernel
theorem dd_M_pipe_23 : decode mt_M_pipe.2.1 23 = .ok (.if_icmp .le 5, 3) := by decide +kernel
theorem dd_M_pipe_26 : decode mt_M_pipe.2.1 26 = .ok (.iconst (-1), 1) := by decide +kernel
theorem dd_M_pipe_27 : decode mt_M_pipe.2.1 27 = .ok (.ireturn, 1) := by decide +kernel
theorem dd_M_pipe_28 : decode mt_M_pipe.2.1 28 = .ok (.aload_n 0, 1) := by decide +kernel
theorem dd_M_pipe_29 : decode mt_M_pipe.2.1 29 = .ok (.getfield 32, 3) := by decide +kernel
theorem dd_M_pipe_32 : decode mt_M_pipe.2.1 32 = .ok (.iload_n 1, 1) := by decide +kernel
theorem dd_M_pipe_33 : decode mt_M_pipe.2.1 33 = .ok (.iaload, 1) := by decide +kernel
theorem dd_M_pipe_34 : decode mt_M_pipe.2.1 34 = .ok (.ifCond .ne 21, 3) := by decide +kernel
theorem dd_M_pipe_37 : decode mt_M_pipe.2.1 37 = .ok (.aload_n 0, 1) := by decide +kernel
theorem dd_M_pipe_38 : decode mt_M_pipe.2.1 38 = .ok (.getfield 107, 3) := by decide +kernel
theorem dd_M_pipe_41 : decode mt_M_pipe.2.1 41 = .ok (.iload_n 2, 1) := by decide +kernel
theorem dd_M_pipe_42 : decode mt_M_pipe.2.1 42 = .ok (.baload, 1) := by decide +kernel
theorem dd_M_pipe_43 : decode mt_M_pipe.2.1 43 = .ok (.ifCond .ne 12, 3) := by decide +kernel
theorem dd_M_pipe_46 : decode mt_M_pipe.2.1 46 = .ok (.aload_n 0, 1) := by decide +kernel
theorem dd_M_pipe_47 : decode mt_M_pipe.2.1 47 = .ok (.getfield 44, 3) := by decide +kernel
theorem dd_M_pipe_50 : decode mt_M_pipe.2.1 50 = .ok (.iload_n 1, 1) := by decide +kernel
theorem dd_M_pipe_51 : decode mt_M_pipe.2.1 51 = .ok (.iaload, 1) := by decide +kernel
theorem dd_M_pipe_52 : decode mt_M_pipe.2.1 52 = .ok (.ifCond .le 6, 3) := by decide +kernel
theorem dd_M_pipe_55 : decode mt_M_pipe.2.1 55 = .ok (.bipush (-2), 2) := by decide +kernel
theorem dd_M_pipe_57 : decode mt_M_pipe.2.1 57 = .ok (.ireturn, 1) := by decide +kernel
theorem dd_M_pipe_58 : decode mt_M_pipe.2.1 58 = .ok (.aload_n 0, 1) := by decide +kernel
theorem dd_M_pipe_59 : decode mt_M_pipe.2.1 59 = .ok (.getfield 257, 3) := by decide +kernel
theorem dd_M_pipe_62 : decode mt_M_pipe.2.1 62 = .ok (.iconst 2, 1) := by decide +kernel
theorem dd_M_pipe_63 : decode mt_M_pipe.2.1 63 = .ok (.if_icmp .ne 6, 3) := by decide +kernel
theorem dd_M_pipe_66 : decode mt_M_pipe.2.1 66 = .ok (.bipush (-3), 2) := by decide +kernel
theorem dd_M_pipe_68 : decode mt_M_pipe.2.1 68 = .ok (.ireturn, 1) := by decide +kernel
theorem dd_M_pipe_69 : decode mt_M_pipe.2.1 69 = .ok (.aload_n 0, 1) := by decide +kernel
theorem dd_M_pipe_70 : decode mt_M_pipe.2.1 70 = .ok (.getfield 113, 3) := by decide +kernel
theorem dd_M_pipe_73 : decode mt_M_pipe.2.1 73 = .ok (.aload_n 0, 1) := by decide +kernel
theorem dd_M_pipe_74 : decode mt_M_pipe.2.1 74 = .ok (.getfield 257, 3) := by decide +kernel
theorem dd_M_pipe_77 : decode mt_M_pipe.2.1 77 = .ok (.iload_n 1, 1) := by decide +kernel
theorem dd_M_pipe_78 : decode mt_M_pipe.2.1 78 = .ok (.iastore, 1) := by decide +kernel
theorem dd_M_pipe_79 : decode mt_M_pipe.2.1 79 = .ok (.aload_n 0, 1) := by decide +kernel
theorem dd_M_pipe_80 : decode mt_M_pipe.2.1 80 = .ok (.getfield 116, 3) := by decide +kernel
theorem dd_M_pipe_83 : decode mt_M_pipe.2.1 83 = .ok (.aload_n 0, 1) := by decide +kernel
theorem dd_M_pipe_84 : decode mt_M_pipe.2.1 84 = .ok (.getfield 257, 3) := by decide +kernel
theorem dd_M_pipe_87 : decode mt_M_pipe.2.1 87 = .ok (.iload_n 2, 1) := by decide +kernel
theorem dd_M_pipe_88 : decode mt_M_pipe.2.1 88 = .ok (.iastore, 1) := by decide +kernel
theorem dd_M_pipe_89 : decode mt_M_pipe.2.1 89 = .ok (.aload_n 0, 1) := by decide +kernel
theorem dd_M_pipe_90 : decode mt_M_pipe.2.1 90 = .ok (.getfield 119, 3) := by decide +kernel
theorem dd_M_pipe_93 : decode mt_M_pipe.2.1 93 = .ok (.aload_n 0, 1) := by decide +kernel
theorem dd_M_pipe_94 : decode mt_M_pipe.2.1 94 = .ok (.getfield 257, 3) := by decide +kernel
theorem dd_M_pipe_97 : decode mt_M_pipe.2.1 97 = .ok (.iload_n 3, 1) := by decide +kernel
theorem dd_M_pipe_98 : decode mt_M_pipe.2.1 98 = .ok (.iastore, 1) := by decide +kernel
theorem dd_M_pipe_99 : decode mt_M_pipe.2.1 99 = .ok (.aload_n 0, 1) := by decide +kernel
theorem dd_M_pipe_100 : decode mt_M_pipe.2.1 100 = .ok (.getfield 32, 3) := by decide +kernel
theorem dd_M_pipe_103 : decode mt_M_pipe.2.1 103 = .ok (.iload_n 1, 1) := by decide +kernel
theorem dd_M_pipe_104 : decode mt_M_pipe.2.1 104 = .ok (.iconst 1, 1) := by decide +kernel
theorem dd_M_pipe_105 : decode mt_M_pipe.2.1 105 = .ok (.iastore, 1) := by decide +kernel
theorem dd_M_pipe_106 : decode mt_M_pipe.2.1 106 = .ok (.aload_n 0, 1) := by decide +kernel
theorem dd_M_pipe_107 : decode mt_M_pipe.2.1 107 = .ok (.getfield 107, 3) := by decide +kernel
theorem dd_M_pipe_110 : decode mt_M_pipe.2.1 110 = .ok (.iload_n 2, 1) := by decide +kernel
theorem dd_M_pipe_111 : decode mt_M_pipe.2.1 111 = .ok (.iconst 1, 1) := by decide +kernel
theorem dd_M_pipe_112 : decode mt_M_pipe.2.1 112 = .ok (.bastore, 1) := by decide +kernel
theorem dd_M_pipe_113 : decode mt_M_pipe.2.1 113 = .ok (.aload_n 0, 1) := by decide +kernel
theorem dd_M_pipe_114 : decode mt_M_pipe.2.1 114 = .ok (.dup, 1) := by decide +kernel
theorem dd_M_pipe_115 : decode mt_M_pipe.2.1 115 = .ok (.getfield 257, 3) := by decide +kernel
theorem dd_M_pipe_118 : decode mt_M_pipe.2.1 118 = .ok (.iconst 1, 1) := by decide +kernel
theorem dd_M_pipe_119 : decode mt_M_pipe.2.1 119 = .ok (.iadd, 1) := by decide +kernel
theorem dd_M_pipe_120 : decode mt_M_pipe.2.1 120 = .ok (.putfield 257, 3) := by decide +kernel
theorem dd_M_pipe_123 : decode mt_M_pipe.2.1 123 = .ok (.aload_n 0, 1) := by decide +kernel
theorem dd_M_pipe_124 : decode mt_M_pipe.2.1 124 = .ok (.invokevirtual 278, 3) := by decide +kernel
theorem dd_M_pipe_127 : decode mt_M_pipe.2.1 127 = .ok (.aload_n 0, 1) := by decide +kernel
theorem dd_M_pipe_128 : decode mt_M_pipe.2.1 128 = .ok (.getfield 257, 3) := by decide +kernel
theorem dd_M_pipe_131 : decode mt_M_pipe.2.1 131 = .ok (.iconst 1, 1) := by decide +kernel
theorem dd_M_pipe_132 : decode mt_M_pipe.2.1 132 = .ok (.isub, 1) := by decide +kernel
theorem dd_M_pipe_133 : decode mt_M_pipe.2.1 133 = .ok (.ireturn, 1) := by decide +kernel
theorem dd_M_part_0 : decode mt_M_part.2.1 0 = .ok (.aload_n 0, 1) := by decide +kernel
theorem dd_M_part_1 : decode mt_M_part.2.1 1 = .ok (.iload_n 1, 1) := by decide +kernel
theorem dd_M_part_2 : decode mt_M_part.2.1 2 = .ok (.invokevirtual 295, 3) := by decide +kernel
theorem dd_M_part_5 : decode mt_M_part.2.1 5 = .ok (.ifCond .eq 5, 3) := by decide +kernel
theorem dd_M_part_8 : decode mt_M_part.2.1 8 = .ok (.iconst (-1), 1) := by decide +kernel
theorem dd_M_part_9 : decode mt_M_part.2.1 9 = .ok (.ireturn, 1) := by decide +kernel
theorem dd_M_part_10 : decode mt_M_part.2.1 10 = .ok (.aload_n 0, 1) := by decide +kernel
theorem dd_M_part_11 : decode mt_M_part.2.1 11 = .ok (.getfield 32, 3) := by decide +kernel
theorem dd_M_part_14 : decode mt_M_part.2.1 14 = .ok (.iload_n 1, 1) := by decide +kernel
theorem dd_M_part_15 : decode mt_M_part.2.1 15 = .ok (.iaload, 1) := by decide +kernel
theorem dd_M_part_16 : decode mt_M_part.2.1 16 = .ok (.ifCond .ne 20, 3) := by decide +kernel
theorem dd_M_part_19 : decode mt_M_part.2.1 19 = .ok (.aload_n 0, 1) := by decide +kernel
theorem dd_M_part_20 : decode mt_M_part.2.1 20 = .ok (.iload_n 1, 1) := by decide +kernel
theorem dd_M_part_21 : decode mt_M_part.2.1 21 = .ok (.invokevirtual 212, 3) := by decide +kernel
theorem dd_M_part_24 : decode mt_M_part.2.1 24 = .ok (.ifCond .ne 12, 3) := by decide +kernel
theorem dd_M_part_27 : decode mt_M_part.2.1 27 = .ok (.aload_n 0, 1) := by decide +kernel
theorem dd_M_part_28 : decode mt_M_part.2.1 28 = .ok (.getfield 44, 3) := by decide +kernel
theorem dd_M_part_31 : decode mt_M_part.2.1 31 = .ok (.iload_n 1, 1) := by decide +kernel
theorem dd_M_part_32 : decode mt_M_part.2.1 32 = .ok (.iaload, 1) := by decide +kernel
theorem dd_M_part_33 : decode mt_M_part.2.1 33 = .ok (.ifCond .le 6, 3) := by decide +kernel
theorem dd_M_part_36 : decode mt_M_part.2.1 36 = .ok (.bipush (-2), 2) := by decide +kernel
theorem dd_M_part_38 : decode mt_M_part.2.1 38 = .ok (.ireturn, 1) := by decide +kernel
theorem dd_M_part_39 : decode mt_M_part.2.1 39 = .ok (.aload_n 0, 1) := by decide +kernel
theorem dd_M_part_40 : decode mt_M_part.2.1 40 = .ok (.getfield 285, 3) := by decide +kernel
theorem dd_M_part_43 : decode mt_M_part.2.1 43 = .ok (.iconst 4, 1) := by decide +kernel
theorem dd_M_part_44 : decode mt_M_part.2.1 44 = .ok (.if_icmp .le 6, 3) := by decide +kernel
theorem dd_M_part_47 : decode mt_M_part.2.1 47 = .ok (.bipush (-3), 2) := by decide +kernel
theorem dd_M_part_49 : decode mt_M_part.2.1 49 = .ok (.ireturn, 1) := by decide +kernel
theorem dd_M_part_50 : decode mt_M_part.2.1 50 = .ok (.aload_n 0, 1) := by decide +kernel
theorem dd_M_part_51 : decode mt_M_part.2.1 51 = .ok (.getfield 32, 3) := by decide +kernel
theorem dd_M_part_54 : decode mt_M_part.2.1 54 = .ok (.iload_n 1, 1) := by decide +kernel
theorem dd_M_part_55 : decode mt_M_part.2.1 55 = .ok (.iconst 2, 1) := by decide +kernel
theorem dd_M_part_56 : decode mt_M_part.2.1 56 = .ok (.iastore, 1) := by decide +kernel
theorem dd_M_part_57 : decode mt_M_part.2.1 57 = .ok (.aload_n 0, 1) := by decide +kernel
theorem dd_M_part_58 : decode mt_M_part.2.1 58 = .ok (.iconst 0, 1) := by decide +kernel
theorem dd_M_part_59 : decode mt_M_part.2.1 59 = .ok (.iconst 0, 1) := by decide +kernel
theorem dd_M_part_60 : decode mt_M_part.2.1 60 = .ok (.iload_n 1, 1) := by decide +kernel
theorem dd_M_part_61 : decode mt_M_part.2.1 61 = .ok (.invokevirtual 291, 3) := by decide +kernel
theorem dd_M_part_64 : decode mt_M_part.2.1 64 = .ok (.istore_n 2, 1) := by decide +kernel
theorem dd_M_part_65 : decode mt_M_part.2.1 65 = .ok (.aload_n 0, 1) := by decide +kernel
theorem dd_M_part_66 : decode mt_M_part.2.1 66 = .ok (.iconst 0, 1) := by decide +kernel
theorem dd_M_part_67 : decode mt_M_part.2.1 67 = .ok (.iconst 0, 1) := by decide +kernel
theorem dd_M_part_68 : decode mt_M_part.2.1 68 = .ok (.iload_n 1, 1) := by decide +kernel
theorem dd_M_part_69 : decode mt_M_part.2.1 69 = .ok (.invokevirtual 291, 3) := by decide +kernel
theorem dd_M_part_72 : decode mt_M_part.2.1 72 = .ok (.istore_n 3, 1) := by decide +kernel
theorem dd_M_part_73 : decode mt_M_part.2.1 73 = .ok (.aload_n 0, 1) := by decide +kernel
theorem dd_M_part_74 : decode mt_M_part.2.1 74 = .ok (.getfield 53, 3) := by decide +kernel
theorem dd_M_part_77 : decode mt_M_part.2.1 77 = .ok (.iload_n 1, 1) := by decide +kernel
theorem dd_M_part_78 : decode mt_M_part.2.1 78 = .ok (.iload_n 2, 1) := by decide +kernel
theorem dd_M_part_79 : decode mt_M_part.2.1 79 = .ok (.iastore, 1) := by decide +kernel
theorem dd_M_part_80 : decode mt_M_part.2.1 80 = .ok (.aload_n 0, 1) := by decide +kernel
theorem dd_M_part_81 : decode mt_M_part.2.1 81 = .ok (.getfield 7, 3) := by decide +kernel
theorem dd_M_part_84 : decode mt_M_part.2.1 84 = .ok (.iload_n 1, 1) := by decide +kernel
theorem dd_M_part_85 : decode mt_M_part.2.1 85 = .ok (.iaload, 1) := by decide +kernel
theorem dd_M_part_86 : decode mt_M_part.2.1 86 = .ok (.iconst 1, 1) := by decide +kernel
theorem dd_M_part_87 : decode mt_M_part.2.1 87 = .ok (.if_icmp .ne 11, 3) := by decide +kernel
theorem dd_M_part_90 : decode mt_M_part.2.1 90 = .ok (.aload_n 0, 1) := by decide +kernel
theorem dd_M_part_91 : decode mt_M_part.2.1 91 = .ok (.iload_n 1, 1) := by decide +kernel
theorem dd_M_part_92 : decode mt_M_part.2.1 92 = .ok (.invokevirtual 189, 3) := by decide +kernel
theorem dd_M_part_95 : decode mt_M_part.2.1 95 = .ok (.goto 35, 3) := by decide +kernel
theorem dd_M_part_98 : decode mt_M_part.2.1 98 = .ok (.aload_n 0, 1) := by decide +kernel
theorem dd_M_part_99 : decode mt_M_part.2.1 99 = .ok (.getfield 7, 3) := by decide +kernel
theorem dd_M_part_102 : decode mt_M_part.2.1 102 = .ok (.iload_n 1, 1) := by decide +kernel
theorem dd_M_part_103 : decode mt_M_part.2.1 103 = .ok (.iaload, 1) := by decide +kernel
theorem dd_M_part_104 : decode mt_M_part.2.1 104 = .ok (.iconst 2, 1) := by decide +kernel
theorem dd_M_part_105 : decode mt_M_part.2.1 105 = .ok (.if_icmp .ne 25, 3) := by decide +kernel
theorem dd_M_part_108 : decode mt_M_part.2.1 108 = .ok (.aload_n 0, 1) := by decide +kernel
theorem dd_M_part_109 : decode mt_M_part.2.1 109 = .ok (.iload_n 2, 1) := by decide +kernel
theorem dd_M_part_110 : decode mt_M_part.2.1 110 = .ok (.aload_n 0, 1) := by decide +kernel
theorem dd_M_part_111 : decode mt_M_part.2.1 111 = .ok (.getfield 13, 3) := by decide +kernel
theorem dd_M_part_114 : decode mt_M_part.2.1 114 = .ok (.iload_n 1, 1) := by decide +kernel
theorem dd_M_part_115 : decode mt_M_part.2.1 115 = .ok (.iaload, 1) := by decide +kernel
theorem dd_M_part_116 : decode mt_M_part.2.1 116 = .ok (.invokevirtual 192, 3) := by decide +kernel
theorem dd_M_part_119 : decode mt_M_part.2.1 119 = .ok (.aload_n 0, 1) := by decide +kernel
theorem dd_M_part_120 : decode mt_M_part.2.1 120 = .ok (.iload_n 3, 1) := by decide +kernel
theorem dd_M_part_121 : decode mt_M_part.2.1 121 = .ok (.aload_n 0, 1) := by decide +kernel
theorem dd_M_part_122 : decode mt_M_part.2.1 122 = .ok (.getfield 13, 3) := by decide +kernel
theorem dd_M_part_125 : decode mt_M_part.2.1 125 = .ok (.iload_n 1, 1) := by decide +kernel
theorem dd_M_part_126 : decode mt_M_part.2.1 126 = .ok (.iaload, 1) := by decide +kernel
theorem dd_M_part_127 : decode mt_M_part.2.1 127 = .ok (.invokevirtual 192, 3) := by decide +kernel
theorem dd_M_part_130 : decode mt_M_part.2.1 130 = .ok (.aload_n 0, 1) := by decide +kernel
theorem dd_M_part_131 : decode mt_M_part.2.1 131 = .ok (.invokevirtual 278, 3) := by decide +kernel
theorem dd_M_part_134 : decode mt_M_part.2.1 134 = .ok (.iload_n 2, 1) := by decide +kernel
theorem dd_M_part_135 : decode mt_M_part.2.1 135 = .ok (.ireturn, 1) := by decide +kernel
theorem dd_M_giverState_0 : decode mt_M_giverState.2.1 0 = .ok (.aload_n 0, 1) := by decide +kernel
theorem dd_M_giverState_1 : decode mt_M_giverState.2.1 1 = .ok (.iload_n 1, 1) := by decide +kernel
theorem dd_M_giverState_2 : decode mt_M_giverState.2.1 2 = .ok (.invokevirtual 295, 3) := by decide +kernel
theorem dd_M_giverState_5 : decode mt_M_giverState.2.1 5 = .ok (.ifCond .eq 5, 3) := by decide +kernel
theorem dd_M_giverState_8 : decode mt_M_giverState.2.1 8 = .ok (.iconst (-1), 1) := by decide +kernel
theorem dd_M_giverState_9 : decode mt_M_giverState.2.1 9 = .ok (.ireturn, 1) := by decide +kernel
theorem dd_M_giverState_10 : decode mt_M_giverState.2.1 10 = .ok (.aload_n 0, 1) := by decide +kernel
theorem dd_M_giverState_11 : decode mt_M_giverState.2.1 11 = .ok (.getfield 7, 3) := by decide +kernel
theorem dd_M_giverState_14 : decode mt_M_giverState.2.1 14 = .ok (.iload_n 1, 1) := by decide +kernel
theorem dd_M_giverState_15 : decode mt_M_giverState.2.1 15 = .ok (.iaload, 1) := by decide +kernel
theorem dd_M_giverState_16 : decode mt_M_giverState.2.1 16 = .ok (.aload_n 0, 1) := by decide +kernel
theorem dd_M_giverState_17 : decode mt_M_giverState.2.1 17 = .ok (.getfield 23, 3) := by decide +kernel
theorem dd_M_giverState_20 : decode mt_M_giverState.2.1 20 = .ok (.iload_n 1, 1) := by decide +kernel
theorem dd_M_giverState_21 : decode mt_M_giverState.2.1 21 = .ok (.baload, 1) := by decide +kernel
theorem dd_M_giverState_22 : decode mt_M_giverState.2.1 22 = .ok (.ifCond .eq 7, 3) := by decide +kernel
theorem dd_M_giverState_25 : decode mt_M_giverState.2.1 25 = .ok (.iconst 4, 1) := by decide +kernel
theorem dd_M_giverState_26 : decode mt_M_giverState.2.1 26 = .ok (.goto 4, 3) := by decide +kernel
theorem dd_M_giverState_29 : decode mt_M_giverState.2.1 29 = .ok (.iconst 0, 1) := by decide +kernel
theorem dd_M_giverState_30 : decode mt_M_giverState.2.1 30 = .ok (.iadd, 1) := by decide +kernel
theorem dd_M_giverState_31 : decode mt_M_giverState.2.1 31 = .ok (.aload_n 0, 1) := by decide +kernel
theorem dd_M_giverState_32 : decode mt_M_giverState.2.1 32 = .ok (.getfield 26, 3) := by decide +kernel
theorem dd_M_giverState_35 : decode mt_M_giverState.2.1 35 = .ok (.iload_n 1, 1) := by decide +kernel
theorem dd_M_giverState_36 : decode mt_M_giverState.2.1 36 = .ok (.baload, 1) := by decide +kernel
theorem dd_M_giverState_37 : decode mt_M_giverState.2.1 37 = .ok (.ifCond .eq 8, 3) := by decide +kernel
theorem dd_M_giverState_40 : decode mt_M_giverState.2.1 40 = .ok (.bipush 8, 2) := by decide +kernel
theorem dd_M_giverState_42 : decode mt_M_giverState.2.1 42 = .ok (.goto 4, 3) := by decide +kernel
theorem dd_M_giverState_45 : decode mt_M_giverState.2.1 45 = .ok (.iconst 0, 1) := by decide +kernel
theorem dd_M_giverState_46 : decode mt_M_giverState.2.1 46 = .ok (.iadd, 1) := by decide +kernel
theorem dd_M_giverState_47 : decode mt_M_giverState.2.1 47 = .ok (.aload_n 0, 1) := by decide +kernel
theorem dd_M_giverState_48 : decode mt_M_giverState.2.1 48 = .ok (.getfield 29, 3) := by decide +kernel
theorem dd_M_giverState_51 : decode mt_M_giverState.2.1 51 = .ok (.iload_n 1, 1) := by decide +kernel
theorem dd_M_giverState_52 : decode mt_M_giverState.2.1 52 = .ok (.baload, 1) := by decide +kernel
theorem dd_M_giverState_53 : decode mt_M_giverState.2.1 53 = .ok (.ifCond .eq 8, 3) := by decide +kernel
theorem dd_M_giverState_56 : decode mt_M_giverState.2.1 56 = .ok (.bipush 16, 2) := by decide +kernel
theorem dd_M_giverState_58 : decode mt_M_giverState.2.1 58 = .ok (.goto 4, 3) := by decide +kernel
theorem dd_M_giverState_61 : decode mt_M_giverState.2.1 61 = .ok (.iconst 0, 1) := by decide +kernel
theorem dd_M_giverState_62 : decode mt_M_giverState.2.1 62 = .ok (.iadd, 1) := by decide +kernel
theorem dd_M_giverState_63 : decode mt_M_giverState.2.1 63 = .ok (.bipush 32, 2) := by decide +kernel
theorem dd_M_giverState_65 : decode mt_M_giverState.2.1 65 = .ok (.aload_n 0, 1) := by decide +kernel
theorem dd_M_giverState_66 : decode mt_M_giverState.2.1 66 = .ok (.getfield 32, 3) := by decide +kernel
theorem dd_M_giverState_69 : decode mt_M_giverState.2.1 69 = .ok (.iload_n 1, 1) := by decide +kernel
theorem dd_M_giverState_70 : decode mt_M_giverState.2.1 70 = .ok (.iaload, 1) := by decide +kernel
theorem dd_M_giverState_71 : decode mt_M_giverState.2.1 71 = .ok (.imul, 1) := by decide +kernel
theorem dd_M_giverState_72 : decode mt_M_giverState.2.1 72 = .ok (.iadd, 1) := by decide +kernel
theorem dd_M_giverState_73 : decode mt_M_giverState.2.1 73 = .ok (.ireturn, 1) := by decide +kernel
theorem dd_M_giverRoom_0 : decode mt_M_giverRoom.2.1 0 = .ok (.aload_n 0, 1) := by decide +kernel
theorem dd_M_giverRoom_1 : decode mt_M_giverRoom.2.1 1 = .ok (.iload_n 1, 1) := by decide +kernel
theorem dd_M_giverRoom_2 : decode mt_M_giverRoom.2.1 2 = .ok (.invokevirtual 295, 3) := by decide +kernel
theorem dd_M_giverRoom_5 : decode mt_M_giverRoom.2.1 5 = .ok (.ifCond .eq 9, 3) := by decide +kernel
theorem dd_M_giverRoom_8 : decode mt_M_giverRoom.2.1 8 = .ok (.sipush (-1000), 3) := by decide +kernel
theorem dd_M_giverRoom_11 : decode mt_M_giverRoom.2.1 11 = .ok (.goto 21, 3) := by decide +kernel
theorem dd_M_giverRoom_14 : decode mt_M_giverRoom.2.1 14 = .ok (.aload_n 0, 1) := by decide +kernel
theorem dd_M_giverRoom_15 : decode mt_M_giverRoom.2.1 15 = .ok (.getfield 7, 3) := by decide +kernel
theorem dd_M_giverRoom_18 : decode mt_M_giverRoom.2.1 18 = .ok (.iload_n 1, 1) := by decide +kernel
theorem dd_M_giverRoom_19 : decode mt_M_giverRoom.2.1 19 = .ok (.iaload, 1) := by decide +kernel
theorem dd_M_giverRoom_20 : decode mt_M_giverRoom.2.1 20 = .ok (.ifCond .ne 11, 3) := by decide +kernel
theorem dd_M_giverRoom_23 : decode mt_M_giverRoom.2.1 23 = .ok (.aload_n 0, 1) := by decide +kernel
theorem dd_M_giverRoom_24 : decode mt_M_giverRoom.2.1 24 = .ok (.iload_n 1, 1) := by decide +kernel
theorem dd_M_giverRoom_25 : decode mt_M_giverRoom.2.1 25 = .ok (.invokevirtual 195, 3) := by decide +kernel
theorem dd_M_giverRoom_28 : decode mt_M_giverRoom.2.1 28 = .ok (.goto 4, 3) := by decide +kernel
theorem dd_M_giverRoom_31 : decode mt_M_giverRoom.2.1 31 = .ok (.iconst 0, 1) := by decide +kernel
theorem dd_M_giverRoom_32 : decode mt_M_giverRoom.2.1 32 = .ok (.ireturn, 1) := by decide +kernel
theorem dd_M_giverQueue_0 : decode mt_M_giverQueue.2.1 0 = .ok (.aload_n 0, 1) := by decide +kernel
theorem dd_M_giverQueue_1 : decode mt_M_giverQueue.2.1 1 = .ok (.iload_n 1, 1) := by decide +kernel
theorem dd_M_giverQueue_2 : decode mt_M_giverQueue.2.1 2 = .ok (.invokevirtual 295, 3) := by decide +kernel
theorem dd_M_giverQueue_5 : decode mt_M_giverQueue.2.1 5 = .ok (.ifCond .eq 7, 3) := by decide +kernel
theorem dd_M_giverQueue_8 : decode mt_M_giverQueue.2.1 8 = .ok (.iconst (-1), 1) := by decide +kernel
theorem dd_M_giverQueue_9 : decode mt_M_giverQueue.2.1 9 = .ok (.goto 19, 3) := by decide +kernel
theorem dd_M_giverQueue_12 : decode mt_M_giverQueue.2.1 12 = .ok (.aload_n 0, 1) := by decide +kernel
theorem dd_M_giverQueue_13 : decode mt_M_giverQueue.2.1 13 = .ok (.getfield 38, 3) := by decide +kernel
theorem dd_M_giverQueue_16 : decode mt_M_giverQueue.2.1 16 = .ok (.iload_n 1, 1) := by decide +kernel
theorem dd_M_giverQueue_17 : decode mt_M_giverQueue.2.1 17 = .ok (.iaload, 1) := by decide +kernel
theorem dd_M_giverQueue_18 : decode mt_M_giverQueue.2.1 18 = .ok (.bipush 100, 2) := by decide +kernel
theorem dd_M_giverQueue_20 : decode mt_M_giverQueue.2.1 20 = .ok (.aload_n 0, 1) := by decide +kernel
theorem dd_M_giverQueue_21 : decode mt_M_giverQueue.2.1 21 = .ok (.getfield 44, 3) := by decide +kernel
theorem dd_M_giverQueue_24 : decode mt_M_giverQueue.2.1 24 = .ok (.iload_n 1, 1) := by decide +kernel
theorem dd_M_giverQueue_25 : decode mt_M_giverQueue.2.1 25 = .ok (.iaload, 1) := by decide +kernel
theorem dd_M_giverQueue_26 : decode mt_M_giverQueue.2.1 26 = .ok (.imul, 1) := by decide +kernel
theorem dd_M_giverQueue_27 : decode mt_M_giverQueue.2.1 27 = .ok (.iadd, 1) := by decide +kernel
theorem dd_M_giverQueue_28 : decode mt_M_giverQueue.2.1 28 = .ok (.ireturn, 1) := by decide +kernel
theorem dd_M_takerState_0 : decode mt_M_takerState.2.1 0 = .ok (.aload_n 0, 1) := by decide +kernel
theorem dd_M_takerState_1 : decode mt_M_takerState.2.1 1 = .ok (.iload_n 1, 1) := by decide +kernel
theorem dd_M_takerState_2 : decode mt_M_takerState.2.1 2 = .ok (.invokevirtual 308, 3) := by decide +kernel
theorem dd_M_takerState_5 : decode mt_M_takerState.2.1 5 = .ok (.ifCond .eq 5, 3) := by decide +kernel
theorem dd_M_takerState_8 : decode mt_M_takerState.2.1 8 = .ok (.iconst (-1), 1) := by decide +kernel
theorem dd_M_takerState_9 : decode mt_M_takerState.2.1 9 = .ok (.ireturn, 1) := by decide +kernel
theorem dd_M_takerState_10 : decode mt_M_takerState.2.1 10 = .ok (.aload_n 0, 1) := by decide +kernel
theorem dd_M_takerState_11 : decode mt_M_takerState.2.1 11 = .ok (.getfield 95, 3) := by decide +kernel
theorem dd_M_takerState_14 : decode mt_M_takerState.2.1 14 = .ok (.iload_n 1, 1) := by decide +kernel
theorem dd_M_takerState_15 : decode mt_M_takerState.2.1 15 = .ok (.iaload, 1) := by decide +kernel
theorem dd_M_takerState_16 : decode mt_M_takerState.2.1 16 = .ok (.iconst 3, 1) := by decide +kernel
theorem dd_M_takerState_17 : decode mt_M_takerState.2.1 17 = .ok (.if_icmp .ne 8, 3) := by decide +kernel
theorem dd_M_takerState_20 : decode mt_M_takerState.2.1 20 = .ok (.bipush 8, 2) := by decide +kernel
theorem dd_M_takerState_22 : decode mt_M_takerState.2.1 22 = .ok (.goto 34, 3) := by decide +kernel
theorem dd_M_takerState_25 : decode mt_M_takerState.2.1 25 = .ok (.aload_n 0, 1) := by decide +kernel
theorem dd_M_takerState_26 : decode mt_M_takerState.2.1 26 = .ok (.getfield 95, 3) := by decide +kernel
theorem dd_M_takerState_29 : decode mt_M_takerState.2.1 29 = .ok (.iload_n 1, 1) := by decide +kernel
theorem dd_M_takerState_30 : decode mt_M_takerState.2.1 30 = .ok (.iaload, 1) := by decide +kernel
theorem dd_M_takerState_31 : decode mt_M_takerState.2.1 31 = .ok (.iconst 4, 1) := by decide +kernel
theorem dd_M_takerState_32 : decode mt_M_takerState.2.1 32 = .ok (.if_icmp .ne 8, 3) := by decide +kernel
theorem dd_M_takerState_35 : decode mt_M_takerState.2.1 35 = .ok (.bipush 16, 2) := by decide +kernel
theorem dd_M_takerState_37 : decode mt_M_takerState.2.1 37 = .ok (.goto 19, 3) := by decide +kernel
theorem dd_M_takerState_40 : decode mt_M_takerState.2.1 40 = .ok (.aload_n 0, 1) := by decide +kernel
theorem dd_M_takerState_41 : decode mt_M_takerState.2.1 41 = .ok (.getfield 95, 3) := by decide +kernel
theorem dd_M_takerState_44 : decode mt_M_takerState.2.1 44 = .ok (.iload_n 1, 1) := by decide +kernel
theorem dd_M_takerState_45 : decode mt_M_takerState.2.1 45 = .ok (.iaload, 1) := by decide +kernel
theorem dd_M_takerState_46 : decode mt_M_takerState.2.1 46 = .ok (.iconst 5, 1) := by decide +kernel
theorem dd_M_takerState_47 : decode mt_M_takerState.2.1 47 = .ok (.if_icmp .ne 8, 3) := by decide +kernel
theorem dd_M_takerState_50 : decode mt_M_takerState.2.1 50 = .ok (.bipush 32, 2) := by decide +kernel
theorem dd_M_takerState_52 : decode mt_M_takerState.2.1 52 = .ok (.goto 4, 3) := by decide +kernel
theorem dd_M_takerState_55 : decode mt_M_takerState.2.1 55 = .ok (.iconst 0, 1) := by decide +kernel
theorem dd_M_takerState_56 : decode mt_M_takerState.2.1 56 = .ok (.istore_n 2, 1) := by decide +kernel
theorem dd_M_takerState_57 : decode mt_M_takerState.2.1 57 = .ok (.aload_n 0, 1) := by decide +kernel
theorem dd_M_takerState_58 : decode mt_M_takerState.2.1 58 = .ok (.getfield 68, 3) := by decide +kernel
theorem dd_M_takerState_61 : decode mt_M_takerState.2.1 61 = .ok (.iload_n 1, 1) := by decide +kernel
theorem dd_M_takerState_62 : decode mt_M_takerState.2.1 62 = .ok (.iaload, 1) := by decide +kernel
theorem dd_M_takerState_63 : decode mt_M_takerState.2.1 63 = .ok (.aload_n 0, 1) := by decide +kernel
theorem dd_M_takerState_64 : decode mt_M_takerState.2.1 64 = .ok (.getfield 92, 3) := by decide +kernel
theorem dd_M_takerState_67 : decode mt_M_takerState.2.1 67 = .ok (.iload_n 1, 1) := by decide +kernel
theorem dd_M_takerState_68 : decode mt_M_takerState.2.1 68 = .ok (.baload, 1) := by decide +kernel
theorem dd_M_takerState_69 : decode mt_M_takerState.2.1 69 = .ok (.ifCond .eq 7, 3) := by decide +kernel
theorem dd_M_takerState_72 : decode mt_M_takerState.2.1 72 = .ok (.iconst 4, 1) := by decide +kernel
theorem dd_M_takerState_73 : decode mt_M_takerState.2.1 73 = .ok (.goto 4, 3) := by decide +kernel
theorem dd_M_takerState_76 : decode mt_M_takerState.2.1 76 = .ok (.iconst 0, 1) := by decide +kernel
theorem dd_M_takerState_77 : decode mt_M_takerState.2.1 77 = .ok (.iadd, 1) := by decide +kernel
theorem dd_M_takerState_78 : decode mt_M_takerState.2.1 78 = .ok (.iload_n 2, 1) := by decide +kernel
theorem dd_M_takerState_79 : decode mt_M_takerState.2.1 79 = .ok (.iadd, 1) := by decide +kernel
theorem dd_M_takerState_80 : decode mt_M_takerState.2.1 80 = .ok (.aload_n 0, 1) := by decide +kernel
theorem dd_M_takerState_81 : decode mt_M_takerState.2.1 81 = .ok (.getfield 98, 3) := by decide +kernel
theorem dd_M_takerState_84 : decode mt_M_takerState.2.1 84 = .ok (.iload_n 1, 1) := by decide +kernel
theorem dd_M_takerState_85 : decode mt_M_takerState.2.1 85 = .ok (.baload, 1) := by decide +kernel
theorem dd_M_takerState_86 : decode mt_M_takerState.2.1 86 = .ok (.ifCond .eq 8, 3) := by decide +kernel
theorem dd_M_takerState_89 : decode mt_M_takerState.2.1 89 = .ok (.bipush 64, 2) := by decide +kernel
theorem dd_M_takerState_91 : decode mt_M_takerState.2.1 91 = .ok (.goto 4, 3) := by decide +kernel
theorem dd_M_takerState_94 : decode mt_M_takerState.2.1 94 = .ok (.iconst 0, 1) := by decide +kernel
theorem dd_M_takerState_95 : decode mt_M_takerState.2.1 95 = .ok (.iadd, 1) := by decide +kernel
theorem dd_M_takerState_96 : decode mt_M_takerState.2.1 96 = .ok (.aload_n 0, 1) := by decide +kernel
theorem dd_M_takerState_97 : decode mt_M_takerState.2.1 97 = .ok (.getfield 107, 3) := by decide +kernel
theorem dd_M_takerState_100 : decode mt_M_takerState.2.1 100 = .ok (.iload_n 1, 1) := by decide +kernel
theorem dd_M_takerState_101 : decode mt_M_takerState.2.1 101 = .ok (.baload, 1) := by decide +kernel
theorem dd_M_takerState_102 : decode mt_M_takerState.2.1 102 = .ok (.ifCond .eq 9, 3) := by decide +kernel
theorem dd_M_takerState_105 : decode mt_M_takerState.2.1 105 = .ok (.sipush 128, 3) := by decide +kernel
theorem dd_M_takerState_108 : decode mt_M_takerState.2.1 108 = .ok (.goto 4, 3) := by decide +kernel
theorem dd_M_takerState_111 : decode mt_M_takerState.2.1 111 = .ok (.iconst 0, 1) := by decide +kernel
theorem dd_M_takerState_112 : decode mt_M_takerState.2.1 112 = .ok (.iadd, 1) := by decide +kernel
theorem dd_M_takerState_113 : decode mt_M_takerState.2.1 113 = .ok (.ireturn, 1) := by decide +kernel
theorem dd_M_takerRoom_0 : decode mt_M_takerRoom.2.1 0 = .ok (.aload_n 0, 1) := by decide +kernel
theorem dd_M_takerRoom_1 : decode mt_M_takerRoom.2.1 1 = .ok (.iload_n 1, 1) := by decide +kernel
theorem dd_M_takerRoom_2 : decode mt_M_takerRoom.2.1 2 = .ok (.invokevirtual 308, 3) := by decide +kernel
theorem dd_M_takerRoom_5 : decode mt_M_takerRoom.2.1 5 = .ok (.ifCond .eq 9, 3) := by decide +kernel
theorem dd_M_takerRoom_8 : decode mt_M_takerRoom.2.1 8 = .ok (.sipush (-1000), 3) := by decide +kernel
theorem dd_M_takerRoom_11 : decode mt_M_takerRoom.2.1 11 = .ok (.goto 21, 3) := by decide +kernel
theorem dd_M_takerRoom_14 : decode mt_M_takerRoom.2.1 14 = .ok (.aload_n 0, 1) := by decide +kernel
theorem dd_M_takerRoom_15 : decode mt_M_takerRoom.2.1 15 = .ok (.getfield 68, 3) := by decide +kernel
theorem dd_M_takerRoom_18 : decode mt_M_takerRoom.2.1 18 = .ok (.iload_n 1, 1) := by decide +kernel
theorem dd_M_takerRoom_19 : decode mt_M_takerRoom.2.1 19 = .ok (.iaload, 1) := by decide +kernel
theorem dd_M_takerRoom_20 : decode mt_M_takerRoom.2.1 20 = .ok (.ifCond .ne 11, 3) := by decide +kernel
theorem dd_M_takerRoom_23 : decode mt_M_takerRoom.2.1 23 = .ok (.aload_n 0, 1) := by decide +kernel
theorem dd_M_takerRoom_24 : decode mt_M_takerRoom.2.1 24 = .ok (.iload_n 1, 1) := by decide +kernel
theorem dd_M_takerRoom_25 : decode mt_M_takerRoom.2.1 25 = .ok (.invokevirtual 251, 3) := by decide +kernel
theorem dd_M_takerRoom_28 : decode mt_M_takerRoom.2.1 28 = .ok (.goto 4, 3) := by decide +kernel
theorem dd_M_takerRoom_31 : decode mt_M_takerRoom.2.1 31 = .ok (.iconst 0, 1) := by decide +kernel
theorem dd_M_takerRoom_32 : decode mt_M_takerRoom.2.1 32 = .ok (.ireturn, 1) := by decide +kernel
theorem dd_M_takerQueue_0 : decode mt_M_takerQueue.2.1 0 = .ok (.aload_n 0, 1) := by decide +kernel
theorem dd_M_takerQueue_1 : decode mt_M_takerQueue.2.1 1 = .ok (.iload_n 1, 1) := by decide +kernel
theorem dd_M_takerQueue_2 : decode mt_M_takerQueue.2.1 2 = .ok (.invokevirtual 308, 3) := by decide +kernel
theorem dd_M_takerQueue_5 : decode mt_M_takerQueue.2.1 5 = .ok (.ifCond .eq 7, 3) := by decide +kernel
theorem dd_M_takerQueue_8 : decode mt_M_takerQueue.2.1 8 = .ok (.iconst (-1), 1) := by decide +kernel
theorem dd_M_takerQueue_9 : decode mt_M_takerQueue.2.1 9 = .ok (.goto 9, 3) := by decide +kernel
theorem dd_M_takerQueue_12 : decode mt_M_takerQueue.2.1 12 = .ok (.aload_n 0, 1) := by decide +kernel
theorem dd_M_takerQueue_13 : decode mt_M_takerQueue.2.1 13 = .ok (.getfield 86, 3) := by decide +kernel
theorem dd_M_takerQueue_16 : decode mt_M_takerQueue.2.1 16 = .ok (.iload_n 1, 1) := by decide +kernel
theorem dd_M_takerQueue_17 : decode mt_M_takerQueue.2.1 17 = .ok (.iaload, 1) := by decide +kernel
theorem dd_M_takerQueue_18 : decode mt_M_takerQueue.2.1 18 = .ok (.ireturn, 1) := by decide +kernel
theorem dd_M_error_0 : decode mt_M_error.2.1 0 = .ok (.iload_n 1, 1) := by decide +kernel
theorem dd_M_error_1 : decode mt_M_error.2.1 1 = .ok (.ifCond .eq 42, 3) := by decide +kernel
theorem dd_M_error_4 : decode mt_M_error.2.1 4 = .ok (.aload_n 0, 1) := by decide +kernel
theorem dd_M_error_5 : decode mt_M_error.2.1 5 = .ok (.iload_n 2, 1) := by decide +kernel
theorem dd_M_error_6 : decode mt_M_error.2.1 6 = .ok (.invokevirtual 308, 3) := by decide +kernel
theorem dd_M_error_9 : decode mt_M_error.2.1 9 = .ok (.ifCond .ne 23, 3) := by decide +kernel
theorem dd_M_error_12 : decode mt_M_error.2.1 12 = .ok (.aload_n 0, 1) := by decide +kernel
theorem dd_M_error_13 : decode mt_M_error.2.1 13 = .ok (.getfield 68, 3) := by decide +kernel
theorem dd_M_error_16 : decode mt_M_error.2.1 16 = .ok (.iload_n 2, 1) := by decide +kernel
theorem dd_M_error_17 : decode mt_M_error.2.1 17 = .ok (.iaload, 1) := by decide +kernel
theorem dd_M_error_18 : decode mt_M_error.2.1 18 = .ok (.iconst 1, 1) := by decide +kernel
theorem dd_M_error_19 : decode mt_M_error.2.1 19 = .ok (.if_icmp .eq 17, 3) := by decide +kernel
theorem dd_M_error_22 : decode mt_M_error.2.1 22 = .ok (.aload_n 0, 1) := by decide +kernel
theorem dd_M_error_23 : decode mt_M_error.2.1 23 = .ok (.getfield 68, 3) := by decide +kernel
theorem dd_M_error_26 : decode mt_M_error.2.1 26 = .ok (.iload_n 2, 1) := by decide +kernel
theorem dd_M_error_27 : decode mt_M_error.2.1 27 = .ok (.iaload, 1) := by decide +kernel
theorem dd_M_error_28 : decode mt_M_error.2.1 28 = .ok (.iconst 2, 1) := by decide +kernel
theorem dd_M_error_29 : decode mt_M_error.2.1 29 = .ok (.if_icmp .eq 7, 3) := by decide +kernel
theorem dd_M_error_32 : decode mt_M_error.2.1 32 = .ok (.iconst (-1), 1) := by decide +kernel
theorem dd_M_error_33 : decode mt_M_error.2.1 33 = .ok (.goto 9, 3) := by decide +kernel
theorem dd_M_error_36 : decode mt_M_error.2.1 36 = .ok (.aload_n 0, 1) := by decide +kernel
theorem dd_M_error_37 : decode mt_M_error.2.1 37 = .ok (.getfield 71, 3) := by decide +kernel
theorem dd_M_error_40 : decode mt_M_error.2.1 40 = .ok (.iload_n 2, 1) := by decide +kernel
theorem dd_M_error_41 : decode mt_M_error.2.1 41 = .ok (.iaload, 1) := by decide +kernel
theorem dd_M_error_42 : decode mt_M_error.2.1 42 = .ok (.ireturn, 1) := by decide +kernel
theorem dd_M_error_43 : decode mt_M_error.2.1 43 = .ok (.aload_n 0, 1) := by decide +kernel
theorem dd_M_error_44 : decode mt_M_error.2.1 44 = .ok (.iload_n 2, 1) := by decide +kernel
theorem dd_M_error_45 : decode mt_M_error.2.1 45 = .ok (.invokevirtual 295, 3) := by decide +kernel
theorem dd_M_error_48 : decode mt_M_error.2.1 48 = .ok (.ifCond .ne 13, 3) := by decide +kernel
theorem dd_M_error_51 : decode mt_M_error.2.1 51 = .ok (.aload_n 0, 1) := by decide +kernel
theorem dd_M_error_52 : decode mt_M_error.2.1 52 = .ok (.getfield 7, 3) := by decide +kernel
theorem dd_M_error_55 : decode mt_M_error.2.1 55 = .ok (.iload_n 2, 1) := by decide +kernel
theorem dd_M_error_56 : decode mt_M_error.2.1 56 = .ok (.iaload, 1) := by decide +kernel
theorem dd_M_error_57 : decode mt_M_error.2.1 57 = .ok (.iconst 2, 1) := by decide +kernel
theorem dd_M_error_58 : decode mt_M_error.2.1 58 = .ok (.if_icmp .eq 7, 3) := by decide +kernel
theorem dd_M_error_61 : decode mt_M_error.2.1 61 = .ok (.iconst (-1), 1) := by decide +kernel
theorem dd_M_error_62 : decode mt_M_error.2.1 62 = .ok (.goto 9, 3) := by decide +kernel
theorem dd_M_error_65 : decode mt_M_error.2.1 65 = .ok (.aload_n 0, 1) := by decide +kernel
theorem dd_M_error_66 : decode mt_M_error.2.1 66 = .ok (.getfield 13, 3) := by decide +kernel
theorem dd_M_error_69 : decode mt_M_error.2.1 69 = .ok (.iload_n 2, 1) := by decide +kernel
theorem dd_M_error_70 : decode mt_M_error.2.1 70 = .ok (.iaload, 1) := by decide +kernel
theorem dd_M_error_71 : decode mt_M_error.2.1 71 = .ok (.ireturn, 1) := by decide +kernel
theorem dd_M_events_0 : decode mt_M_events.2.1 0 = .ok (.aload_n 0, 1) := by decide +kernel
theorem dd_M_events_1 : decode mt_M_events.2.1 1 = .ok (.getfield 146, 3) := by decide +kernel
theorem dd_M_events_4 : decode mt_M_events.2.1 4 = .ok (.ireturn, 1) := by decide +kernel
theorem dd_M_event_0 : decode mt_M_event.2.1 0 = .ok (.iload_n 1, 1) := by decide +kernel
theorem dd_M_event_1 : decode mt_M_event.2.1 1 = .ok (.ifCond .lt 31, 3) := by decide +kernel
theorem dd_M_event_4 : decode mt_M_event.2.1 4 = .ok (.iload_n 1, 1) := by decide +kernel
theorem dd_M_event_5 : decode mt_M_event.2.1 5 = .ok (.aload_n 0, 1) := by decide +kernel
theorem dd_M_event_6 : decode mt_M_event.2.1 6 = .ok (.getfield 146, 3) := by decide +kernel
theorem dd_M_event_9 : decode mt_M_event.2.1 9 = .ok (.if_icmp .ge 23, 3) := by decide +kernel
theorem dd_M_event_12 : decode mt_M_event.2.1 12 = .ok (.iload_n 1, 1) := by decide +kernel
theorem dd_M_event_13 : decode mt_M_event.2.1 13 = .ok (.aload_n 0, 1) := by decide +kernel
theorem dd_M_event_14 : decode mt_M_event.2.1 14 = .ok (.getfield 146, 3) := by decide +kernel
theorem dd_M_event_17 : decode mt_M_event.2.1 17 = .ok (.bipush 64, 2) := by decide +kernel
theorem dd_M_event_19 : decode mt_M_event.2.1 19 = .ok (.isub, 1) := by decide +kernel
theorem dd_M_event_20 : decode mt_M_event.2.1 20 = .ok (.if_icmp .lt 12, 3) := by decide +kernel
theorem dd_M_event_23 : decode mt_M_event.2.1 23 = .ok (.iload_n 2, 1) := by decide +kernel
theorem dd_M_event_24 : decode mt_M_event.2.1 24 = .ok (.ifCond .lt 8, 3) := by decide +kernel
theorem dd_M_event_27 : decode mt_M_event.2.1 27 = .ok (.iload_n 2, 1) := by decide +kernel
theorem dd_M_event_28 : decode mt_M_event.2.1 28 = .ok (.iconst 2, 1) := by decide +kernel
theorem dd_M_event_29 : decode mt_M_event.2.1 29 = .ok (.if_icmp .le 5, 3) := by decide +kernel
theorem dd_M_event_32 : decode mt_M_event.2.1 32 = .ok (.iconst 0, 1) := by decide +kernel
theorem dd_M_event_33 : decode mt_M_event.2.1 33 = .ok (.ireturn, 1) := by decide +kernel
theorem dd_M_event_34 : decode mt_M_event.2.1 34 = .ok (.iload_n 2, 1) := by decide +kernel
theorem dd_M_event_35 : decode mt_M_event.2.1 35 = .ok (.ifCond .ne 15, 3) := by decide +kernel
theorem dd_M_event_38 : decode mt_M_event.2.1 38 = .ok (.aload_n 0, 1) := by decide +kernel
theorem dd_M_event_39 : decode mt_M_event.2.1 39 = .ok (.getfield 137, 3) := by decide +kernel
theorem dd_M_event_42 : decode mt_M_event.2.1 42 = .ok (.iload_n 1, 1) := by decide +kernel
theorem dd_M_event_43 : decode mt_M_event.2.1 43 = .ok (.bipush 64, 2) := by decide +kernel
theorem dd_M_event_45 : decode mt_M_event.2.1 45 = .ok (.irem, 1) := by decide +kernel
theorem dd_M_event_46 : decode mt_M_event.2.1 46 = .ok (.iaload, 1) := by decide +kernel
theorem dd_M_event_47 : decode mt_M_event.2.1 47 = .ok (.goto 29, 3) := by decide +kernel
theorem dd_M_event_50 : decode mt_M_event.2.1 50 = .ok (.iload_n 2, 1) := by decide +kernel
theorem dd_M_event_51 : decode mt_M_event.2.1 51 = .ok (.iconst 1, 1) := by decide +kernel
theorem dd_M_event_52 : decode mt_M_event.2.1 52 = .ok (.if_icmp .ne 15, 3) := by decide +kernel
theorem dd_M_event_55 : decode mt_M_event.2.1 55 = .ok (.aload_n 0, 1) := by decide +kernel
theorem dd_M_event_56 : decode mt_M_event.2.1 56 = .ok (.getfield 140, 3) := by decide +kernel
theorem dd_M_event_59 : decode mt_M_event.2.1 59 = .ok (.iload_n 1, 1) := by decide +kernel
theorem dd_M_event_60 : decode mt_M_event.2.1 60 = .ok (.bipush 64, 2) := by decide +kernel
theorem dd_M_event_62 : decode mt_M_event.2.1 62 = .ok (.irem, 1) := by decide +kernel
theorem dd_M_event_63 : decode mt_M_event.2.1 63 = .ok (.iaload, 1) := by decide +kernel
theorem dd_M_event_64 : decode mt_M_event.2.1 64 = .ok (.goto 12, 3) := by decide +kernel
theorem dd_M_event_67 : decode mt_M_event.2.1 67 = .ok (.aload_n 0, 1) := by decide +kernel
theorem dd_M_event_68 : decode mt_M_event.2.1 68 = .ok (.getfield 143, 3) := by decide +kernel
theorem dd_M_event_71 : decode mt_M_event.2.1 71 = .ok (.iload_n 1, 1) := by decide +kernel
theorem dd_M_event_72 : decode mt_M_event.2.1 72 = .ok (.bipush 64, 2) := by decide +kernel
theorem dd_M_event_74 : decode mt_M_event.2.1 74 = .ok (.irem, 1) := by decide +kernel
theorem dd_M_event_75 : decode mt_M_event.2.1 75 = .ok (.iaload, 1) := by decide +kernel
theorem dd_M_event_76 : decode mt_M_event.2.1 76 = .ok (.ireturn, 1) := by decide +kernel
