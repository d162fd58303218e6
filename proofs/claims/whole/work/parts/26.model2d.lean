theorem dd_M_pullRoot_0 : decode mt_M_pullRoot.2.1 0 = .ok (.aload_n 0, 1) := by decide +kernel
theorem dd_M_pullRoot_1 : decode mt_M_pullRoot.2.1 1 = .ok (.iload_n 1, 1) := by decide +kernel
theorem dd_M_pullRoot_2 : decode mt_M_pullRoot.2.1 2 = .ok (.invokevirtual 199, 3) := by decide +kernel
theorem dd_M_pullRoot_5 : decode mt_M_pullRoot.2.1 5 = .ok (.ifCond .eq 11, 3) := by decide +kernel
theorem dd_M_pullRoot_8 : decode mt_M_pullRoot.2.1 8 = .ok (.aload_n 0, 1) := by decide +kernel
theorem dd_M_pullRoot_9 : decode mt_M_pullRoot.2.1 9 = .ok (.iconst 1, 1) := by decide +kernel
theorem dd_M_pullRoot_10 : decode mt_M_pullRoot.2.1 10 = .ok (.iload_n 1, 1) := by decide +kernel
theorem dd_M_pullRoot_11 : decode mt_M_pullRoot.2.1 11 = .ok (.iconst 0, 1) := by decide +kernel
theorem dd_M_pullRoot_12 : decode mt_M_pullRoot.2.1 12 = .ok (.iconst 0, 1) := by decide +kernel
theorem dd_M_pullRoot_13 : decode mt_M_pullRoot.2.1 13 = .ok (.invokevirtual 160, 3) := by decide +kernel
theorem dd_M_pullRoot_16 : decode mt_M_pullRoot.2.1 16 = .ok (.return_, 1) := by decide +kernel
theorem dd_M_readOn_0 : decode mt_M_readOn.2.1 0 = .ok (.aload_n 0, 1) := by decide +kernel
theorem dd_M_readOn_1 : decode mt_M_readOn.2.1 1 = .ok (.getfield 59, 3) := by decide +kernel
theorem dd_M_readOn_4 : decode mt_M_readOn.2.1 4 = .ok (.iload_n 1, 1) := by decide +kernel
theorem dd_M_readOn_5 : decode mt_M_readOn.2.1 5 = .ok (.iconst 1, 1) := by decide +kernel
theorem dd_M_readOn_6 : decode mt_M_readOn.2.1 6 = .ok (.bastore, 1) := by decide +kernel
theorem dd_M_readOn_7 : decode mt_M_readOn.2.1 7 = .ok (.aload_n 0, 1) := by decide +kernel
theorem dd_M_readOn_8 : decode mt_M_readOn.2.1 8 = .ok (.getfield 7, 3) := by decide +kernel
theorem dd_M_readOn_11 : decode mt_M_readOn.2.1 11 = .ok (.iload_n 1, 1) := by decide +kernel
theorem dd_M_readOn_12 : decode mt_M_readOn.2.1 12 = .ok (.iaload, 1) := by decide +kernel
theorem dd_M_readOn_13 : decode mt_M_readOn.2.1 13 = .ok (.iconst 1, 1) := by decide +kernel
theorem dd_M_readOn_14 : decode mt_M_readOn.2.1 14 = .ok (.if_icmp .ne 18, 3) := by decide +kernel
theorem dd_M_readOn_17 : decode mt_M_readOn.2.1 17 = .ok (.aload_n 0, 1) := by decide +kernel
theorem dd_M_readOn_18 : decode mt_M_readOn.2.1 18 = .ok (.getfield 59, 3) := by decide +kernel
theorem dd_M_readOn_21 : decode mt_M_readOn.2.1 21 = .ok (.iload_n 1, 1) := by decide +kernel
theorem dd_M_readOn_22 : decode mt_M_readOn.2.1 22 = .ok (.iconst 0, 1) := by decide +kernel
theorem dd_M_readOn_23 : decode mt_M_readOn.2.1 23 = .ok (.bastore, 1) := by decide +kernel
theorem dd_M_readOn_24 : decode mt_M_readOn.2.1 24 = .ok (.aload_n 0, 1) := by decide +kernel
theorem dd_M_readOn_25 : decode mt_M_readOn.2.1 25 = .ok (.iload_n 1, 1) := by decide +kernel
theorem dd_M_readOn_26 : decode mt_M_readOn.2.1 26 = .ok (.invokevirtual 189, 3) := by decide +kernel
theorem dd_M_readOn_29 : decode mt_M_readOn.2.1 29 = .ok (.goto 112, 3) := by decide +kernel
theorem dd_M_readOn_32 : decode mt_M_readOn.2.1 32 = .ok (.aload_n 0, 1) := by decide +kernel
theorem dd_M_readOn_33 : decode mt_M_readOn.2.1 33 = .ok (.getfield 7, 3) := by decide +kernel
theorem dd_M_readOn_36 : decode mt_M_readOn.2.1 36 = .ok (.iload_n 1, 1) := by decide +kernel
theorem dd_M_readOn_37 : decode mt_M_readOn.2.1 37 = .ok (.iaload, 1) := by decide +kernel
theorem dd_M_readOn_38 : decode mt_M_readOn.2.1 38 = .ok (.iconst 2, 1) := by decide +kernel
theorem dd_M_readOn_39 : decode mt_M_readOn.2.1 39 = .ok (.if_icmp .ne 13, 3) := by decide +kernel
theorem dd_M_readOn_42 : decode mt_M_readOn.2.1 42 = .ok (.aload_n 0, 1) := by decide +kernel
theorem dd_M_readOn_43 : decode mt_M_readOn.2.1 43 = .ok (.getfield 59, 3) := by decide +kernel
theorem dd_M_readOn_46 : decode mt_M_readOn.2.1 46 = .ok (.iload_n 1, 1) := by decide +kernel
theorem dd_M_readOn_47 : decode mt_M_readOn.2.1 47 = .ok (.iconst 0, 1) := by decide +kernel
theorem dd_M_readOn_48 : decode mt_M_readOn.2.1 48 = .ok (.bastore, 1) := by decide +kernel
theorem dd_M_readOn_49 : decode mt_M_readOn.2.1 49 = .ok (.goto 92, 3) := by decide +kernel
theorem dd_M_readOn_52 : decode mt_M_readOn.2.1 52 = .ok (.aload_n 0, 1) := by decide +kernel
theorem dd_M_readOn_53 : decode mt_M_readOn.2.1 53 = .ok (.getfield 38, 3) := by decide +kernel
theorem dd_M_readOn_56 : decode mt_M_readOn.2.1 56 = .ok (.iload_n 1, 1) := by decide +kernel
theorem dd_M_readOn_57 : decode mt_M_readOn.2.1 57 = .ok (.iaload, 1) := by decide +kernel
theorem dd_M_readOn_58 : decode mt_M_readOn.2.1 58 = .ok (.ifCond .le 50, 3) := by decide +kernel
theorem dd_M_readOn_61 : decode mt_M_readOn.2.1 61 = .ok (.aload_n 0, 1) := by decide +kernel
theorem dd_M_readOn_62 : decode mt_M_readOn.2.1 62 = .ok (.iload_n 1, 1) := by decide +kernel
theorem dd_M_readOn_63 : decode mt_M_readOn.2.1 63 = .ok (.invokevirtual 203, 3) := by decide +kernel
theorem dd_M_readOn_66 : decode mt_M_readOn.2.1 66 = .ok (.istore_n 2, 1) := by decide +kernel
theorem dd_M_readOn_67 : decode mt_M_readOn.2.1 67 = .ok (.aload_n 0, 1) := by decide +kernel
theorem dd_M_readOn_68 : decode mt_M_readOn.2.1 68 = .ok (.getfield 23, 3) := by decide +kernel
theorem dd_M_readOn_71 : decode mt_M_readOn.2.1 71 = .ok (.iload_n 1, 1) := by decide +kernel
theorem dd_M_readOn_72 : decode mt_M_readOn.2.1 72 = .ok (.baload, 1) := by decide +kernel
theorem dd_M_readOn_73 : decode mt_M_readOn.2.1 73 = .ok (.ifCond .eq 20, 3) := by decide +kernel
theorem dd_M_readOn_76 : decode mt_M_readOn.2.1 76 = .ok (.aload_n 0, 1) := by decide +kernel
theorem dd_M_readOn_77 : decode mt_M_readOn.2.1 77 = .ok (.getfield 38, 3) := by decide +kernel
theorem dd_M_readOn_80 : decode mt_M_readOn.2.1 80 = .ok (.iload_n 1, 1) := by decide +kernel
theorem dd_M_readOn_81 : decode mt_M_readOn.2.1 81 = .ok (.iaload, 1) := by decide +kernel
theorem dd_M_readOn_82 : decode mt_M_readOn.2.1 82 = .ok (.ifCond .ne 11, 3) := by decide +kernel
theorem dd_M_readOn_85 : decode mt_M_readOn.2.1 85 = .ok (.aload_n 0, 1) := by decide +kernel
theorem dd_M_readOn_86 : decode mt_M_readOn.2.1 86 = .ok (.iload_n 1, 1) := by decide +kernel
theorem dd_M_readOn_87 : decode mt_M_readOn.2.1 87 = .ok (.invokevirtual 206, 3) := by decide +kernel
theorem dd_M_readOn_90 : decode mt_M_readOn.2.1 90 = .ok (.goto 8, 3) := by decide +kernel
theorem dd_M_readOn_93 : decode mt_M_readOn.2.1 93 = .ok (.aload_n 0, 1) := by decide +kernel
theorem dd_M_readOn_94 : decode mt_M_readOn.2.1 94 = .ok (.iload_n 1, 1) := by decide +kernel
theorem dd_M_readOn_95 : decode mt_M_readOn.2.1 95 = .ok (.invokevirtual 209, 3) := by decide +kernel
theorem dd_M_readOn_98 : decode mt_M_readOn.2.1 98 = .ok (.aload_n 0, 1) := by decide +kernel
theorem dd_M_readOn_99 : decode mt_M_readOn.2.1 99 = .ok (.iconst 2, 1) := by decide +kernel
theorem dd_M_readOn_100 : decode mt_M_readOn.2.1 100 = .ok (.iload_n 1, 1) := by decide +kernel
theorem dd_M_readOn_101 : decode mt_M_readOn.2.1 101 = .ok (.iload_n 2, 1) := by decide +kernel
theorem dd_M_readOn_102 : decode mt_M_readOn.2.1 102 = .ok (.invokevirtual 178, 3) := by decide +kernel
theorem dd_M_readOn_105 : decode mt_M_readOn.2.1 105 = .ok (.goto 36, 3) := by decide +kernel
theorem dd_M_readOn_108 : decode mt_M_readOn.2.1 108 = .ok (.aload_n 0, 1) := by decide +kernel
theorem dd_M_readOn_109 : decode mt_M_readOn.2.1 109 = .ok (.getfield 41, 3) := by decide +kernel
theorem dd_M_readOn_112 : decode mt_M_readOn.2.1 112 = .ok (.bipush 8, 2) := by decide +kernel
theorem dd_M_readOn_114 : decode mt_M_readOn.2.1 114 = .ok (.iload_n 1, 1) := by decide +kernel
theorem dd_M_readOn_115 : decode mt_M_readOn.2.1 115 = .ok (.imul, 1) := by decide +kernel
theorem dd_M_readOn_116 : decode mt_M_readOn.2.1 116 = .ok (.aload_n 0, 1) := by decide +kernel
theorem dd_M_readOn_117 : decode mt_M_readOn.2.1 117 = .ok (.getfield 44, 3) := by decide +kernel
theorem dd_M_readOn_120 : decode mt_M_readOn.2.1 120 = .ok (.iload_n 1, 1) := by decide +kernel
theorem dd_M_readOn_121 : decode mt_M_readOn.2.1 121 = .ok (.iaload, 1) := by decide +kernel
theorem dd_M_readOn_122 : decode mt_M_readOn.2.1 122 = .ok (.iadd, 1) := by decide +kernel
theorem dd_M_readOn_123 : decode mt_M_readOn.2.1 123 = .ok (.bipush (-10), 2) := by decide +kernel
theorem dd_M_readOn_125 : decode mt_M_readOn.2.1 125 = .ok (.iastore, 1) := by decide +kernel
theorem dd_M_readOn_126 : decode mt_M_readOn.2.1 126 = .ok (.aload_n 0, 1) := by decide +kernel
theorem dd_M_readOn_127 : decode mt_M_readOn.2.1 127 = .ok (.getfield 44, 3) := by decide +kernel
theorem dd_M_readOn_130 : decode mt_M_readOn.2.1 130 = .ok (.iload_n 1, 1) := by decide +kernel
theorem dd_M_readOn_131 : decode mt_M_readOn.2.1 131 = .ok (.dup2, 1) := by decide +kernel
theorem dd_M_readOn_132 : decode mt_M_readOn.2.1 132 = .ok (.iaload, 1) := by decide +kernel
theorem dd_M_readOn_133 : decode mt_M_readOn.2.1 133 = .ok (.iconst 1, 1) := by decide +kernel
theorem dd_M_readOn_134 : decode mt_M_readOn.2.1 134 = .ok (.iadd, 1) := by decide +kernel
theorem dd_M_readOn_135 : decode mt_M_readOn.2.1 135 = .ok (.iastore, 1) := by decide +kernel
theorem dd_M_readOn_136 : decode mt_M_readOn.2.1 136 = .ok (.aload_n 0, 1) := by decide +kernel
theorem dd_M_readOn_137 : decode mt_M_readOn.2.1 137 = .ok (.iload_n 1, 1) := by decide +kernel
theorem dd_M_readOn_138 : decode mt_M_readOn.2.1 138 = .ok (.invokevirtual 209, 3) := by decide +kernel
theorem dd_M_readOn_141 : decode mt_M_readOn.2.1 141 = .ok (.return_, 1) := by decide +kernel
theorem dd_M_pull_0 : decode mt_M_pull.2.1 0 = .ok (.aload_n 0, 1) := by decide +kernel
theorem dd_M_pull_1 : decode mt_M_pull.2.1 1 = .ok (.iload_n 1, 1) := by decide +kernel
theorem dd_M_pull_2 : decode mt_M_pull.2.1 2 = .ok (.invokevirtual 212, 3) := by decide +kernel
theorem dd_M_pull_5 : decode mt_M_pull.2.1 5 = .ok (.ifCond .ne 11, 3) := by decide +kernel
theorem dd_M_pull_8 : decode mt_M_pull.2.1 8 = .ok (.aload_n 0, 1) := by decide +kernel
theorem dd_M_pull_9 : decode mt_M_pull.2.1 9 = .ok (.iload_n 1, 1) := by decide +kernel
theorem dd_M_pull_10 : decode mt_M_pull.2.1 10 = .ok (.invokevirtual 209, 3) := by decide +kernel
theorem dd_M_pull_13 : decode mt_M_pull.2.1 13 = .ok (.goto 56, 3) := by decide +kernel
theorem dd_M_pull_16 : decode mt_M_pull.2.1 16 = .ok (.aload_n 0, 1) := by decide +kernel
theorem dd_M_pull_17 : decode mt_M_pull.2.1 17 = .ok (.iload_n 1, 1) := by decide +kernel
theorem dd_M_pull_18 : decode mt_M_pull.2.1 18 = .ok (.invokevirtual 199, 3) := by decide +kernel
theorem dd_M_pull_21 : decode mt_M_pull.2.1 21 = .ok (.ifCond .eq 48, 3) := by decide +kernel
theorem dd_M_pull_24 : decode mt_M_pull.2.1 24 = .ok (.aload_n 0, 1) := by decide +kernel
theorem dd_M_pull_25 : decode mt_M_pull.2.1 25 = .ok (.getfield 56, 3) := by decide +kernel
theorem dd_M_pull_28 : decode mt_M_pull.2.1 28 = .ok (.iload_n 1, 1) := by decide +kernel
theorem dd_M_pull_29 : decode mt_M_pull.2.1 29 = .ok (.iaload, 1) := by decide +kernel
theorem dd_M_pull_30 : decode mt_M_pull.2.1 30 = .ok (.istore_n 2, 1) := by decide +kernel
theorem dd_M_pull_31 : decode mt_M_pull.2.1 31 = .ok (.aload_n 0, 1) := by decide +kernel
theorem dd_M_pull_32 : decode mt_M_pull.2.1 32 = .ok (.getfield 59, 3) := by decide +kernel
theorem dd_M_pull_35 : decode mt_M_pull.2.1 35 = .ok (.iload_n 2, 1) := by decide +kernel
theorem dd_M_pull_36 : decode mt_M_pull.2.1 36 = .ok (.baload, 1) := by decide +kernel
theorem dd_M_pull_37 : decode mt_M_pull.2.1 37 = .ok (.ifCond .eq 13, 3) := by decide +kernel
theorem dd_M_pull_40 : decode mt_M_pull.2.1 40 = .ok (.aload_n 0, 1) := by decide +kernel
theorem dd_M_pull_41 : decode mt_M_pull.2.1 41 = .ok (.getfield 62, 3) := by decide +kernel
theorem dd_M_pull_44 : decode mt_M_pull.2.1 44 = .ok (.iload_n 2, 1) := by decide +kernel
theorem dd_M_pull_45 : decode mt_M_pull.2.1 45 = .ok (.iconst 1, 1) := by decide +kernel
theorem dd_M_pull_46 : decode mt_M_pull.2.1 46 = .ok (.bastore, 1) := by decide +kernel
theorem dd_M_pull_47 : decode mt_M_pull.2.1 47 = .ok (.goto 8, 3) := by decide +kernel
theorem dd_M_pull_50 : decode mt_M_pull.2.1 50 = .ok (.aload_n 0, 1) := by decide +kernel
theorem dd_M_pull_51 : decode mt_M_pull.2.1 51 = .ok (.iload_n 2, 1) := by decide +kernel
theorem dd_M_pull_52 : decode mt_M_pull.2.1 52 = .ok (.invokevirtual 215, 3) := by decide +kernel
theorem dd_M_pull_55 : decode mt_M_pull.2.1 55 = .ok (.aload_n 0, 1) := by decide +kernel
theorem dd_M_pull_56 : decode mt_M_pull.2.1 56 = .ok (.iconst 1, 1) := by decide +kernel
theorem dd_M_pull_57 : decode mt_M_pull.2.1 57 = .ok (.iload_n 1, 1) := by decide +kernel
theorem dd_M_pull_58 : decode mt_M_pull.2.1 58 = .ok (.iconst (-1), 1) := by decide +kernel
theorem dd_M_pull_59 : decode mt_M_pull.2.1 59 = .ok (.invokevirtual 178, 3) := by decide +kernel
theorem dd_M_pull_62 : decode mt_M_pull.2.1 62 = .ok (.aload_n 0, 1) := by decide +kernel
theorem dd_M_pull_63 : decode mt_M_pull.2.1 63 = .ok (.getfield 50, 3) := by decide +kernel
theorem dd_M_pull_66 : decode mt_M_pull.2.1 66 = .ok (.iload_n 1, 1) := by decide +kernel
theorem dd_M_pull_67 : decode mt_M_pull.2.1 67 = .ok (.iconst 1, 1) := by decide +kernel
theorem dd_M_pull_68 : decode mt_M_pull.2.1 68 = .ok (.bastore, 1) := by decide +kernel
theorem dd_M_pull_69 : decode mt_M_pull.2.1 69 = .ok (.return_, 1) := by decide +kernel
theorem dd_M_takeIn_0 : decode mt_M_takeIn.2.1 0 = .ok (.aload_n 0, 1) := by decide +kernel
theorem dd_M_takeIn_1 : decode mt_M_takeIn.2.1 1 = .ok (.getfield 44, 3) := by decide +kernel
theorem dd_M_takeIn_4 : decode mt_M_takeIn.2.1 4 = .ok (.iload_n 1, 1) := by decide +kernel
theorem dd_M_takeIn_5 : decode mt_M_takeIn.2.1 5 = .ok (.iaload, 1) := by decide +kernel
theorem dd_M_takeIn_6 : decode mt_M_takeIn.2.1 6 = .ok (.ifCond .le 17, 3) := by decide +kernel
theorem dd_M_takeIn_9 : decode mt_M_takeIn.2.1 9 = .ok (.aload_n 0, 1) := by decide +kernel
theorem dd_M_takeIn_10 : decode mt_M_takeIn.2.1 10 = .ok (.iload_n 1, 1) := by decide +kernel
theorem dd_M_takeIn_11 : decode mt_M_takeIn.2.1 11 = .ok (.aload_n 0, 1) := by decide +kernel
theorem dd_M_takeIn_12 : decode mt_M_takeIn.2.1 12 = .ok (.iload_n 1, 1) := by decide +kernel
theorem dd_M_takeIn_13 : decode mt_M_takeIn.2.1 13 = .ok (.invokevirtual 218, 3) := by decide +kernel
theorem dd_M_takeIn_16 : decode mt_M_takeIn.2.1 16 = .ok (.iload_n 2, 1) := by decide +kernel
theorem dd_M_takeIn_17 : decode mt_M_takeIn.2.1 17 = .ok (.invokevirtual 221, 3) := by decide +kernel
theorem dd_M_takeIn_20 : decode mt_M_takeIn.2.1 20 = .ok (.goto 30, 3) := by decide +kernel
theorem dd_M_takeIn_23 : decode mt_M_takeIn.2.1 23 = .ok (.aload_n 0, 1) := by decide +kernel
theorem dd_M_takeIn_24 : decode mt_M_takeIn.2.1 24 = .ok (.getfield 35, 3) := by decide +kernel
theorem dd_M_takeIn_27 : decode mt_M_takeIn.2.1 27 = .ok (.bipush 16, 2) := by decide +kernel
theorem dd_M_takeIn_29 : decode mt_M_takeIn.2.1 29 = .ok (.iload_n 1, 1) := by decide +kernel
theorem dd_M_takeIn_30 : decode mt_M_takeIn.2.1 30 = .ok (.imul, 1) := by decide +kernel
theorem dd_M_takeIn_31 : decode mt_M_takeIn.2.1 31 = .ok (.aload_n 0, 1) := by decide +kernel
theorem dd_M_takeIn_32 : decode mt_M_takeIn.2.1 32 = .ok (.getfield 38, 3) := by decide +kernel
theorem dd_M_takeIn_35 : decode mt_M_takeIn.2.1 35 = .ok (.iload_n 1, 1) := by decide +kernel
theorem dd_M_takeIn_36 : decode mt_M_takeIn.2.1 36 = .ok (.iaload, 1) := by decide +kernel
theorem dd_M_takeIn_37 : decode mt_M_takeIn.2.1 37 = .ok (.iadd, 1) := by decide +kernel
theorem dd_M_takeIn_38 : decode mt_M_takeIn.2.1 38 = .ok (.iload_n 2, 1) := by decide +kernel
theorem dd_M_takeIn_39 : decode mt_M_takeIn.2.1 39 = .ok (.iastore, 1) := by decide +kernel
theorem dd_M_takeIn_40 : decode mt_M_takeIn.2.1 40 = .ok (.aload_n 0, 1) := by decide +kernel
theorem dd_M_takeIn_41 : decode mt_M_takeIn.2.1 41 = .ok (.getfield 38, 3) := by decide +kernel
theorem dd_M_takeIn_44 : decode mt_M_takeIn.2.1 44 = .ok (.iload_n 1, 1) := by decide +kernel
theorem dd_M_takeIn_45 : decode mt_M_takeIn.2.1 45 = .ok (.dup2, 1) := by decide +kernel
theorem dd_M_takeIn_46 : decode mt_M_takeIn.2.1 46 = .ok (.iaload, 1) := by decide +kernel
theorem dd_M_takeIn_47 : decode mt_M_takeIn.2.1 47 = .ok (.iconst 1, 1) := by decide +kernel
theorem dd_M_takeIn_48 : decode mt_M_takeIn.2.1 48 = .ok (.iadd, 1) := by decide +kernel
theorem dd_M_takeIn_49 : decode mt_M_takeIn.2.1 49 = .ok (.iastore, 1) := by decide +kernel
theorem dd_M_takeIn_50 : decode mt_M_takeIn.2.1 50 = .ok (.aload_n 0, 1) := by decide +kernel
theorem dd_M_takeIn_51 : decode mt_M_takeIn.2.1 51 = .ok (.iload_n 1, 1) := by decide +kernel
theorem dd_M_takeIn_52 : decode mt_M_takeIn.2.1 52 = .ok (.invokevirtual 224, 3) := by decide +kernel
theorem dd_M_takeIn_55 : decode mt_M_takeIn.2.1 55 = .ok (.return_, 1) := by decide +kernel
theorem dd_M_request_0 : decode mt_M_request.2.1 0 = .ok (.aload_n 0, 1) := by decide +kernel
theorem dd_M_request_1 : decode mt_M_request.2.1 1 = .ok (.getfield 7, 3) := by decide +kernel
theorem dd_M_request_4 : decode mt_M_request.2.1 4 = .ok (.iload_n 1, 1) := by decide +kernel
theorem dd_M_request_5 : decode mt_M_request.2.1 5 = .ok (.iaload, 1) := by decide +kernel
theorem dd_M_request_6 : decode mt_M_request.2.1 6 = .ok (.iconst 1, 1) := by decide +kernel
theorem dd_M_request_7 : decode mt_M_request.2.1 7 = .ok (.if_icmp .ne 19, 3) := by decide +kernel
theorem dd_M_request_10 : decode mt_M_request.2.1 10 = .ok (.iload_n 2, 1) := by decide +kernel
theorem dd_M_request_11 : decode mt_M_request.2.1 11 = .ok (.ifCond .le 134, 3) := by decide +kernel
theorem dd_M_request_14 : decode mt_M_request.2.1 14 = .ok (.aload_n 0, 1) := by decide +kernel
theorem dd_M_request_15 : decode mt_M_request.2.1 15 = .ok (.bipush 7, 2) := by decide +kernel
theorem dd_M_request_17 : decode mt_M_request.2.1 17 = .ok (.iload_n 1, 1) := by decide +kernel
theorem dd_M_request_18 : decode mt_M_request.2.1 18 = .ok (.iload_n 2, 1) := by decide +kernel
theorem dd_M_request_19 : decode mt_M_request.2.1 19 = .ok (.iconst 0, 1) := by decide +kernel
theorem dd_M_request_20 : decode mt_M_request.2.1 20 = .ok (.invokevirtual 160, 3) := by decide +kernel
theorem dd_M_request_23 : decode mt_M_request.2.1 23 = .ok (.goto 122, 3) := by decide +kernel
theorem dd_M_request_26 : decode mt_M_request.2.1 26 = .ok (.aload_n 0, 1) := by decide +kernel
theorem dd_M_request_27 : decode mt_M_request.2.1 27 = .ok (.getfield 7, 3) := by decide +kernel
theorem dd_M_request_30 : decode mt_M_request.2.1 30 = .ok (.iload_n 1, 1) := by decide +kernel
theorem dd_M_request_31 : decode mt_M_request.2.1 31 = .ok (.iaload, 1) := by decide +kernel
theorem dd_M_request_32 : decode mt_M_request.2.1 32 = .ok (.iconst 2, 1) := by decide +kernel
theorem dd_M_request_33 : decode mt_M_request.2.1 33 = .ok (.if_icmp .ne 24, 3) := by decide +kernel
theorem dd_M_request_36 : decode mt_M_request.2.1 36 = .ok (.iload_n 2, 1) := by decide +kernel
theorem dd_M_request_37 : decode mt_M_request.2.1 37 = .ok (.ifCond .le 108, 3) := by decide +kernel
theorem dd_M_request_40 : decode mt_M_request.2.1 40 = .ok (.aload_n 0, 1) := by decide +kernel
theorem dd_M_request_41 : decode mt_M_request.2.1 41 = .ok (.bipush 8, 2) := by decide +kernel
theorem dd_M_request_43 : decode mt_M_request.2.1 43 = .ok (.iload_n 1, 1) := by decide +kernel
theorem dd_M_request_44 : decode mt_M_request.2.1 44 = .ok (.iload_n 2, 1) := by decide +kernel
theorem dd_M_request_45 : decode mt_M_request.2.1 45 = .ok (.aload_n 0, 1) := by decide +kernel
theorem dd_M_request_46 : decode mt_M_request.2.1 46 = .ok (.getfield 13, 3) := by decide +kernel
theorem dd_M_request_49 : decode mt_M_request.2.1 49 = .ok (.iload_n 1, 1) := by decide +kernel
theorem dd_M_request_50 : decode mt_M_request.2.1 50 = .ok (.iaload, 1) := by decide +kernel
theorem dd_M_request_51 : decode mt_M_request.2.1 51 = .ok (.invokevirtual 160, 3) := by decide +kernel
theorem dd_M_request_54 : decode mt_M_request.2.1 54 = .ok (.goto 91, 3) := by decide +kernel
theorem dd_M_request_57 : decode mt_M_request.2.1 57 = .ok (.aload_n 0, 1) := by decide +kernel
theorem dd_M_request_58 : decode mt_M_request.2.1 58 = .ok (.getfield 38, 3) := by decide +kernel
theorem dd_M_request_61 : decode mt_M_request.2.1 61 = .ok (.iload_n 1, 1) := by decide +kernel
theorem dd_M_request_62 : decode mt_M_request.2.1 62 = .ok (.iaload, 1) := by decide +kernel
theorem dd_M_request_63 : decode mt_M_request.2.1 63 = .ok (.ifCond .le 50, 3) := by decide +kernel
theorem dd_M_request_66 : decode mt_M_request.2.1 66 = .ok (.aload_n 0, 1) := by decide +kernel
theorem dd_M_request_67 : decode mt_M_request.2.1 67 = .ok (.iload_n 1, 1) := by decide +kernel
theorem dd_M_request_68 : decode mt_M_request.2.1 68 = .ok (.invokevirtual 203, 3) := by decide +kernel
theorem dd_M_request_71 : decode mt_M_request.2.1 71 = .ok (.istore_n 3, 1) := by decide +kernel
theorem dd_M_request_72 : decode mt_M_request.2.1 72 = .ok (.aload_n 0, 1) := by decide +kernel
theorem dd_M_request_73 : decode mt_M_request.2.1 73 = .ok (.getfield 23, 3) := by decide +kernel
theorem dd_M_request_76 : decode mt_M_request.2.1 76 = .ok (.iload_n 1, 1) := by decide +kernel
theorem dd_M_request_77 : decode mt_M_request.2.1 77 = .ok (.baload, 1) := by decide +kernel
theorem dd_M_request_78 : decode mt_M_request.2.1 78 = .ok (.ifCond .eq 20, 3) := by decide +kernel
theorem dd_M_request_81 : decode mt_M_request.2.1 81 = .ok (.aload_n 0, 1) := by decide +kernel
theorem dd_M_request_82 : decode mt_M_request.2.1 82 = .ok (.getfield 38, 3) := by decide +kernel
theorem dd_M_request_85 : decode mt_M_request.2.1 85 = .ok (.iload_n 1, 1) := by decide +kernel
theorem dd_M_request_86 : decode mt_M_request.2.1 86 = .ok (.iaload, 1) := by decide +kernel
theorem dd_M_request_87 : decode mt_M_request.2.1 87 = .ok (.ifCond .ne 11, 3) := by decide +kernel
theorem dd_M_request_90 : decode mt_M_request.2.1 90 = .ok (.aload_n 0, 1) := by decide +kernel
theorem dd_M_request_91 : decode mt_M_request.2.1 91 = .ok (.iload_n 1, 1) := by decide +kernel
theorem dd_M_request_92 : decode mt_M_request.2.1 92 = .ok (.invokevirtual 206, 3) := by decide +kernel
theorem dd_M_request_95 : decode mt_M_request.2.1 95 = .ok (.goto 8, 3) := by decide +kernel
theorem dd_M_request_98 : decode mt_M_request.2.1 98 = .ok (.aload_n 0, 1) := by decide +kernel
theorem dd_M_request_99 : decode mt_M_request.2.1 99 = .ok (.iload_n 1, 1) := by decide +kernel
theorem dd_M_request_100 : decode mt_M_request.2.1 100 = .ok (.invokevirtual 224, 3) := by decide +kernel
theorem dd_M_request_103 : decode mt_M_request.2.1 103 = .ok (.aload_n 0, 1) := by decide +kernel
theorem dd_M_request_104 : decode mt_M_request.2.1 104 = .ok (.iload_n 1, 1) := by decide +kernel
theorem dd_M_request_105 : decode mt_M_request.2.1 105 = .ok (.iload_n 2, 1) := by decide +kernel
theorem dd_M_request_106 : decode mt_M_request.2.1 106 = .ok (.iload_n 3, 1) := by decide +kernel
theorem dd_M_request_107 : decode mt_M_request.2.1 107 = .ok (.invokevirtual 221, 3) := by decide +kernel
theorem dd_M_request_110 : decode mt_M_request.2.1 110 = .ok (.goto 35, 3) := by decide +kernel
theorem dd_M_request_113 : decode mt_M_request.2.1 113 = .ok (.aload_n 0, 1) := by decide +kernel
theorem dd_M_request_114 : decode mt_M_request.2.1 114 = .ok (.getfield 41, 3) := by decide +kernel
theorem dd_M_request_117 : decode mt_M_request.2.1 117 = .ok (.bipush 8, 2) := by decide +kernel
theorem dd_M_request_119 : decode mt_M_request.2.1 119 = .ok (.iload_n 1, 1) := by decide +kernel
theorem dd_M_request_120 : decode mt_M_request.2.1 120 = .ok (.imul, 1) := by decide +kernel
theorem dd_M_request_121 : decode mt_M_request.2.1 121 = .ok (.aload_n 0, 1) := by decide +kernel
theorem dd_M_request_122 : decode mt_M_request.2.1 122 = .ok (.getfield 44, 3) := by decide +kernel
theorem dd_M_request_125 : decode mt_M_request.2.1 125 = .ok (.iload_n 1, 1) := by decide +kernel
theorem dd_M_request_126 : decode mt_M_request.2.1 126 = .ok (.iaload, 1) := by decide +kernel
theorem dd_M_request_127 : decode mt_M_request.2.1 127 = .ok (.iadd, 1) := by decide +kernel
theorem dd_M_request_128 : decode mt_M_request.2.1 128 = .ok (.iload_n 2, 1) := by decide +kernel
theorem dd_M_request_129 : decode mt_M_request.2.1 129 = .ok (.iastore, 1) := by decide +kernel
theorem dd_M_request_130 : decode mt_M_request.2.1 130 = .ok (.aload_n 0, 1) := by decide +kernel
theorem dd_M_request_131 : decode mt_M_request.2.1 131 = .ok (.getfield 44, 3) := by decide +kernel
theorem dd_M_request_134 : decode mt_M_request.2.1 134 = .ok (.iload_n 1, 1) := by decide +kernel
theorem dd_M_request_135 : decode mt_M_request.2.1 135 = .ok (.dup2, 1) := by decide +kernel
theorem dd_M_request_136 : decode mt_M_request.2.1 136 = .ok (.iaload, 1) := by decide +kernel
theorem dd_M_request_137 : decode mt_M_request.2.1 137 = .ok (.iconst 1, 1) := by decide +kernel
theorem dd_M_request_138 : decode mt_M_request.2.1 138 = .ok (.iadd, 1) := by decide +kernel
theorem dd_M_request_139 : decode mt_M_request.2.1 139 = .ok (.iastore, 1) := by decide +kernel
theorem dd_M_request_140 : decode mt_M_request.2.1 140 = .ok (.aload_n 0, 1) := by decide +kernel
theorem dd_M_request_141 : decode mt_M_request.2.1 141 = .ok (.iload_n 1, 1) := by decide +kernel
theorem dd_M_request_142 : decode mt_M_request.2.1 142 = .ok (.invokevirtual 224, 3) := by decide +kernel
theorem dd_M_request_145 : decode mt_M_request.2.1 145 = .ok (.return_, 1) := by decide +kernel
theorem dd_M_cancelRoot_0 : decode mt_M_cancelRoot.2.1 0 = .ok (.aload_n 0, 1) := by decide +kernel
theorem dd_M_cancelRoot_1 : decode mt_M_cancelRoot.2.1 1 = .ok (.getfield 7, 3) := by decide +kernel
theorem dd_M_cancelRoot_4 : decode mt_M_cancelRoot.2.1 4 = .ok (.iload_n 1, 1) := by decide +kernel
theorem dd_M_cancelRoot_5 : decode mt_M_cancelRoot.2.1 5 = .ok (.iaload, 1) := by decide +kernel
theorem dd_M_cancelRoot_6 : decode mt_M_cancelRoot.2.1 6 = .ok (.ifCond .ne 23, 3) := by decide +kernel
theorem dd_M_cancelRoot_9 : decode mt_M_cancelRoot.2.1 9 = .ok (.aload_n 0, 1) := by decide +kernel
theorem dd_M_cancelRoot_10 : decode mt_M_cancelRoot.2.1 10 = .ok (.getfield 38, 3) := by decide +kernel
theorem dd_M_cancelRoot_13 : decode mt_M_cancelRoot.2.1 13 = .ok (.iload_n 1, 1) := by decide +kernel
theorem dd_M_cancelRoot_14 : decode mt_M_cancelRoot.2.1 14 = .ok (.iconst 0, 1) := by decide +kernel
theorem dd_M_cancelRoot_15 : decode mt_M_cancelRoot.2.1 15 = .ok (.iastore, 1) := by decide +kernel
theorem dd_M_cancelRoot_16 : decode mt_M_cancelRoot.2.1 16 = .ok (.aload_n 0, 1) := by decide +kernel
theorem dd_M_cancelRoot_17 : decode mt_M_cancelRoot.2.1 17 = .ok (.iload_n 1, 1) := by decide +kernel
theorem dd_M_cancelRoot_18 : decode mt_M_cancelRoot.2.1 18 = .ok (.invokevirtual 206, 3) := by decide +kernel
theorem dd_M_cancelRoot_21 : decode mt_M_cancelRoot.2.1 21 = .ok (.aload_n 0, 1) := by decide +kernel
theorem dd_M_cancelRoot_22 : decode mt_M_cancelRoot.2.1 22 = .ok (.iconst 2, 1) := by decide +kernel
theorem dd_M_cancelRoot_23 : decode mt_M_cancelRoot.2.1 23 = .ok (.iload_n 1, 1) := by decide +kernel
theorem dd_M_cancelRoot_24 : decode mt_M_cancelRoot.2.1 24 = .ok (.iload_n 2, 1) := by decide +kernel
theorem dd_M_cancelRoot_25 : decode mt_M_cancelRoot.2.1 25 = .ok (.iconst 0, 1) := by decide +kernel
theorem dd_M_cancelRoot_26 : decode mt_M_cancelRoot.2.1 26 = .ok (.invokevirtual 160, 3) := by decide +kernel
theorem dd_M_cancelRoot_29 : decode mt_M_cancelRoot.2.1 29 = .ok (.return_, 1) := by decide +kernel
theorem dd_M_cancelGiver_0 : decode mt_M_cancelGiver.2.1 0 = .ok (.aload_n 0, 1) := by decide +kernel
theorem dd_M_cancelGiver_1 : decode mt_M_cancelGiver.2.1 1 = .ok (.iload_n 1, 1) := by decide +kernel
theorem dd_M_cancelGiver_2 : decode mt_M_cancelGiver.2.1 2 = .ok (.invokevirtual 212, 3) := by decide +kernel
theorem dd_M_cancelGiver_5 : decode mt_M_cancelGiver.2.1 5 = .ok (.ifCond .ne 12, 3) := by decide +kernel
theorem dd_M_cancelGiver_8 : decode mt_M_cancelGiver.2.1 8 = .ok (.aload_n 0, 1) := by decide +kernel
theorem dd_M_cancelGiver_9 : decode mt_M_cancelGiver.2.1 9 = .ok (.iload_n 1, 1) := by decide +kernel
theorem dd_M_cancelGiver_10 : decode mt_M_cancelGiver.2.1 10 = .ok (.iload_n 2, 1) := by decide +kernel
theorem dd_M_cancelGiver_11 : decode mt_M_cancelGiver.2.1 11 = .ok (.invokevirtual 227, 3) := by decide +kernel
theorem dd_M_cancelGiver_14 : decode mt_M_cancelGiver.2.1 14 = .ok (.goto 74, 3) := by decide +kernel
theorem dd_M_cancelGiver_17 : decode mt_M_cancelGiver.2.1 17 = .ok (.aload_n 0, 1) := by decide +kernel
theorem dd_M_cancelGiver_18 : decode mt_M_cancelGiver.2.1 18 = .ok (.getfield 7, 3) := by decide +kernel
theorem dd_M_cancelGiver_21 : decode mt_M_cancelGiver.2.1 21 = .ok (.iload_n 1, 1) := by decide +kernel
theorem dd_M_cancelGiver_22 : decode mt_M_cancelGiver.2.1 22 = .ok (.iaload, 1) := by decide +kernel
theorem dd_M_cancelGiver_23 : decode mt_M_cancelGiver.2.1 23 = .ok (.ifCond .ne 65, 3) := by decide +kernel
theorem dd_M_cancelGiver_26 : decode mt_M_cancelGiver.2.1 26 = .ok (.aload_n 0, 1) := by decide +kernel
theorem dd_M_cancelGiver_27 : decode mt_M_cancelGiver.2.1 27 = .ok (.getfield 38, 3) := by decide +kernel
theorem dd_M_cancelGiver_30 : decode mt_M_cancelGiver.2.1 30 = .ok (.iload_n 1, 1) := by decide +kernel
theorem dd_M_cancelGiver_31 : decode mt_M_cancelGiver.2.1 31 = .ok (.iconst 0, 1) := by decide +kernel
theorem dd_M_cancelGiver_32 : decode mt_M_cancelGiver.2.1 32 = .ok (.iastore, 1) := by decide +kernel
theorem dd_M_cancelGiver_33 : decode mt_M_cancelGiver.2.1 33 = .ok (.aload_n 0, 1) := by decide +kernel
theorem dd_M_cancelGiver_34 : decode mt_M_cancelGiver.2.1 34 = .ok (.iload_n 1, 1) := by decide +kernel
theorem dd_M_cancelGiver_35 : decode mt_M_cancelGiver.2.1 35 = .ok (.invokevirtual 186, 3) := by decide +kernel
theorem dd_M_cancelGiver_38 : decode mt_M_cancelGiver.2.1 38 = .ok (.aload_n 0, 1) := by decide +kernel
theorem dd_M_cancelGiver_39 : decode mt_M_cancelGiver.2.1 39 = .ok (.getfield 65, 3) := by decide +kernel
theorem dd_M_cancelGiver_42 : decode mt_M_cancelGiver.2.1 42 = .ok (.iload_n 1, 1) := by decide +kernel
theorem dd_M_cancelGiver_43 : decode mt_M_cancelGiver.2.1 43 = .ok (.iconst 1, 1) := by decide +kernel
theorem dd_M_cancelGiver_44 : decode mt_M_cancelGiver.2.1 44 = .ok (.bastore, 1) := by decide +kernel
theorem dd_M_cancelGiver_45 : decode mt_M_cancelGiver.2.1 45 = .ok (.aload_n 0, 1) := by decide +kernel
theorem dd_M_cancelGiver_46 : decode mt_M_cancelGiver.2.1 46 = .ok (.getfield 56, 3) := by decide +kernel
theorem dd_M_cancelGiver_49 : decode mt_M_cancelGiver.2.1 49 = .ok (.iload_n 1, 1) := by decide +kernel
theorem dd_M_cancelGiver_50 : decode mt_M_cancelGiver.2.1 50 = .ok (.iaload, 1) := by decide +kernel
theorem dd_M_cancelGiver_51 : decode mt_M_cancelGiver.2.1 51 = .ok (.istore_n 3, 1) := by decide +kernel
theorem dd_M_cancelGiver_52 : decode mt_M_cancelGiver.2.1 52 = .ok (.aload_n 0, 1) := by decide +kernel
theorem dd_M_cancelGiver_53 : decode mt_M_cancelGiver.2.1 53 = .ok (.getfield 65, 3) := by decide +kernel
theorem dd_M_cancelGiver_56 : decode mt_M_cancelGiver.2.1 56 = .ok (.aload_n 0, 1) := by decide +kernel
theorem dd_M_cancelGiver_57 : decode mt_M_cancelGiver.2.1 57 = .ok (.getfield 53, 3) := by decide +kernel
theorem dd_M_cancelGiver_60 : decode mt_M_cancelGiver.2.1 60 = .ok (.iload_n 3, 1) := by decide +kernel
theorem dd_M_cancelGiver_61 : decode mt_M_cancelGiver.2.1 61 = .ok (.iaload, 1) := by decide +kernel
theorem dd_M_cancelGiver_62 : decode mt_M_cancelGiver.2.1 62 = .ok (.baload, 1) := by decide +kernel
theorem dd_M_cancelGiver_63 : decode mt_M_cancelGiver.2.1 63 = .ok (.ifCond .eq 25, 3) := by decide +kernel
theorem dd_M_cancelGiver_66 : decode mt_M_cancelGiver.2.1 66 = .ok (.aload_n 0, 1) := by decide +kernel
theorem dd_M_cancelGiver_67 : decode mt_M_cancelGiver.2.1 67 = .ok (.getfield 65, 3) := by decide +kernel
theorem dd_M_cancelGiver_70 : decode mt_M_cancelGiver.2.1 70 = .ok (.aload_n 0, 1) := by decide +kernel
theorem dd_M_cancelGiver_71 : decode mt_M_cancelGiver.2.1 71 = .ok (.getfield 53, 3) := by decide +kernel
theorem dd_M_cancelGiver_74 : decode mt_M_cancelGiver.2.1 74 = .ok (.iload_n 3, 1) := by decide +kernel
theorem dd_M_cancelGiver_75 : decode mt_M_cancelGiver.2.1 75 = .ok (.iaload, 1) := by decide +kernel
theorem dd_M_cancelGiver_76 : decode mt_M_cancelGiver.2.1 76 = .ok (.iconst 1, 1) := by decide +kernel
theorem dd_M_cancelGiver_77 : decode mt_M_cancelGiver.2.1 77 = .ok (.iadd, 1) := by decide +kernel
theorem dd_M_cancelGiver_78 : decode mt_M_cancelGiver.2.1 78 = .ok (.baload, 1) := by decide +kernel
theorem dd_M_cancelGiver_79 : decode mt_M_cancelGiver.2.1 79 = .ok (.ifCond .eq 9, 3) := by decide +kernel
theorem dd_M_cancelGiver_82 : decode mt_M_cancelGiver.2.1 82 = .ok (.aload_n 0, 1) := by decide +kernel
theorem dd_M_cancelGiver_83 : decode mt_M_cancelGiver.2.1 83 = .ok (.iload_n 3, 1) := by decide +kernel
theorem dd_M_cancelGiver_84 : decode mt_M_cancelGiver.2.1 84 = .ok (.iload_n 2, 1) := by decide +kernel
theorem dd_M_cancelGiver_85 : decode mt_M_cancelGiver.2.1 85 = .ok (.invokevirtual 227, 3) := by decide +kernel
theorem dd_M_cancelGiver_88 : decode mt_M_cancelGiver.2.1 88 = .ok (.return_, 1) := by decide +kernel
theorem dd_M_ends_0 : decode mt_M_ends.2.1 0 = .ok (.aload_n 0, 1) := by decide +kernel
theorem dd_M_ends_1 : decode mt_M_ends.2.1 1 = .ok (.getfield 23, 3) := by decide +kernel
theorem dd_M_ends_4 : decode mt_M_ends.2.1 4 = .ok (.iload_n 1, 1) := by decide +kernel
theorem dd_M_ends_5 : decode mt_M_ends.2.1 5 = .ok (.iconst 1, 1) := by decide +kernel
theorem dd_M_ends_6 : decode mt_M_ends.2.1 6 = .ok (.bastore, 1) := by decide +kernel
theorem dd_M_ends_7 : decode mt_M_ends.2.1 7 = .ok (.aload_n 0, 1) := by decide +kernel
theorem dd_M_ends_8 : decode mt_M_ends.2.1 8 = .ok (.getfield 38, 3) := by decide +kernel
theorem dd_M_ends_11 : decode mt_M_ends.2.1 11 = .ok (.iload_n 1, 1) := by decide +kernel
theorem dd_M_ends_12 : decode mt_M_ends.2.1 12 = .ok (.iaload, 1) := by decide +kernel
theorem dd_M_ends_13 : decode mt_M_ends.2.1 13 = .ok (.ifCond .ne 8, 3) := by decide +kernel
theorem dd_M_ends_16 : decode mt_M_ends.2.1 16 = .ok (.aload_n 0, 1) := by decide +kernel
theorem dd_M_ends_17 : decode mt_M_ends.2.1 17 = .ok (.iload_n 1, 1) := by decide +kernel
theorem dd_M_ends_18 : decode mt_M_ends.2.1 18 = .ok (.invokevirtual 206, 3) := by decide +kernel
theorem dd_M_ends_21 : decode mt_M_ends.2.1 21 = .ok (.return_, 1) := by decide +kernel
theorem dd_M_pulledJob_0 : decode mt_M_pulledJob.2.1 0 = .ok (.aload_n 0, 1) := by decide +kernel
theorem dd_M_pulledJob_1 : decode mt_M_pulledJob.2.1 1 = .ok (.getfield 50, 3) := by decide +kernel
theorem dd_M_pulledJob_4 : decode mt_M_pulledJob.2.1 4 = .ok (.iload_n 1, 1) := by decide +kernel
theorem dd_M_pulledJob_5 : decode mt_M_pulledJob.2.1 5 = .ok (.iconst 0, 1) := by decide +kernel
theorem dd_M_pulledJob_6 : decode mt_M_pulledJob.2.1 6 = .ok (.bastore, 1) := by decide +kernel
theorem dd_M_pulledJob_7 : decode mt_M_pulledJob.2.1 7 = .ok (.aload_n 0, 1) := by decide +kernel
theorem dd_M_pulledJob_8 : decode mt_M_pulledJob.2.1 8 = .ok (.getfield 26, 3) := by decide +kernel
theorem dd_M_pulledJob_11 : decode mt_M_pulledJob.2.1 11 = .ok (.iload_n 1, 1) := by decide +kernel
theorem dd_M_pulledJob_12 : decode mt_M_pulledJob.2.1 12 = .ok (.iconst 0, 1) := by decide +kernel
theorem dd_M_pulledJob_13 : decode mt_M_pulledJob.2.1 13 = .ok (.bastore, 1) := by decide +kernel
theorem dd_M_pulledJob_14 : decode mt_M_pulledJob.2.1 14 = .ok (.iload_n 2, 1) := by decide +kernel
theorem dd_M_pulledJob_15 : decode mt_M_pulledJob.2.1 15 = .ok (.iconst (-1), 1) := by decide +kernel
theorem dd_M_pulledJob_16 : decode mt_M_pulledJob.2.1 16 = .ok (.if_icmp .eq 12, 3) := by decide +kernel
theorem dd_M_pulledJob_19 : decode mt_M_pulledJob.2.1 19 = .ok (.aload_n 0, 1) := by decide +kernel
theorem dd_M_pulledJob_20 : decode mt_M_pulledJob.2.1 20 = .ok (.iload_n 1, 1) := by decide +kernel
theorem dd_M_pulledJob_21 : decode mt_M_pulledJob.2.1 21 = .ok (.iload_n 2, 1) := by decide +kernel
theorem dd_M_pulledJob_22 : decode mt_M_pulledJob.2.1 22 = .ok (.invokevirtual 230, 3) := by decide +kernel
theorem dd_M_pulledJob_25 : decode mt_M_pulledJob.2.1 25 = .ok (.goto 24, 3) := by decide +kernel
theorem dd_M_pulledJob_28 : decode mt_M_pulledJob.2.1 28 = .ok (.aload_n 0, 1) := by decide +kernel
theorem dd_M_pulledJob_29 : decode mt_M_pulledJob.2.1 29 = .ok (.getfield 29, 3) := by decide +kernel
theorem dd_M_pulledJob_32 : decode mt_M_pulledJob.2.1 32 = .ok (.iload_n 1, 1) := by decide +kernel
theorem dd_M_pulledJob_33 : decode mt_M_pulledJob.2.1 33 = .ok (.baload, 1) := by decide +kernel
theorem dd_M_pulledJob_34 : decode mt_M_pulledJob.2.1 34 = .ok (.ifCond .eq 15, 3) := by decide +kernel
theorem dd_M_pulledJob_37 : decode mt_M_pulledJob.2.1 37 = .ok (.aload_n 0, 1) := by decide +kernel
theorem dd_M_pulledJob_38 : decode mt_M_pulledJob.2.1 38 = .ok (.getfield 29, 3) := by decide +kernel
theorem dd_M_pulledJob_41 : decode mt_M_pulledJob.2.1 41 = .ok (.iload_n 1, 1) := by decide +kernel
theorem dd_M_pulledJob_42 : decode mt_M_pulledJob.2.1 42 = .ok (.iconst 0, 1) := by decide +kernel
theorem dd_M_pulledJob_43 : decode mt_M_pulledJob.2.1 43 = .ok (.bastore, 1) := by decide +kernel
theorem dd_M_pulledJob_44 : decode mt_M_pulledJob.2.1 44 = .ok (.aload_n 0, 1) := by decide +kernel
theorem dd_M_pulledJob_45 : decode mt_M_pulledJob.2.1 45 = .ok (.iload_n 1, 1) := by decide +kernel
theorem dd_M_pulledJob_46 : decode mt_M_pulledJob.2.1 46 = .ok (.invokevirtual 224, 3) := by decide +kernel
theorem dd_M_pulledJob_49 : decode mt_M_pulledJob.2.1 49 = .ok (.return_, 1) := by decide +kernel
theorem dd_M_partedJob_0 : decode mt_M_partedJob.2.1 0 = .ok (.aload_n 0, 1) := by decide +kernel
theorem dd_M_partedJob_1 : decode mt_M_partedJob.2.1 1 = .ok (.getfield 62, 3) := by decide +kernel
theorem dd_M_partedJob_4 : decode mt_M_partedJob.2.1 4 = .ok (.iload_n 1, 1) := by decide +kernel
theorem dd_M_partedJob_5 : decode mt_M_partedJob.2.1 5 = .ok (.iconst 0, 1) := by decide +kernel
theorem dd_M_partedJob_6 : decode mt_M_partedJob.2.1 6 = .ok (.bastore, 1) := by decide +kernel
theorem dd_M_partedJob_7 : decode mt_M_partedJob.2.1 7 = .ok (.aload_n 0, 1) := by decide +kernel
theorem dd_M_partedJob_8 : decode mt_M_partedJob.2.1 8 = .ok (.getfield 53, 3) := by decide +kernel
theorem dd_M_partedJob_11 : decode mt_M_partedJob.2.1 11 = .ok (.iload_n 1, 1) := by decide +kernel
theorem dd_M_partedJob_12 : decode mt_M_partedJob.2.1 12 = .ok (.iaload, 1) := by decide +kernel
theorem dd_M_partedJob_13 : decode mt_M_partedJob.2.1 13 = .ok (.istore_n 3, 1) := by decide +kernel
theorem dd_M_partedJob_14 : decode mt_M_partedJob.2.1 14 = .ok (.iload_n 3, 1) := by decide +kernel
theorem dd_M_partedJob_15 : decode mt_M_partedJob.2.1 15 = .ok (.aload_n 0, 1) := by decide +kernel
theorem dd_M_partedJob_16 : decode mt_M_partedJob.2.1 16 = .ok (.getfield 53, 3) := by decide +kernel
theorem dd_M_partedJob_19 : decode mt_M_partedJob.2.1 19 = .ok (.iload_n 1, 1) := by decide +kernel
theorem dd_M_partedJob_20 : decode mt_M_partedJob.2.1 20 = .ok (.iaload, 1) := by decide +kernel
theorem dd_M_partedJob_21 : decode mt_M_partedJob.2.1 21 = .ok (.iconst 2, 1) := by decide +kernel
theorem dd_M_partedJob_22 : decode mt_M_partedJob.2.1 22 = .ok (.iadd, 1) := by decide +kernel
theorem dd_M_partedJob_23 : decode mt_M_partedJob.2.1 23 = .ok (.if_icmp .ge 63, 3) := by decide +kernel
theorem dd_M_partedJob_26 : decode mt_M_partedJob.2.1 26 = .ok (.aload_n 0, 1) := by decide +kernel
theorem dd_M_partedJob_27 : decode mt_M_partedJob.2.1 27 = .ok (.getfield 7, 3) := by decide +kernel
theorem dd_M_partedJob_30 : decode mt_M_partedJob.2.1 30 = .ok (.iload_n 3, 1) := by decide +kernel
theorem dd_M_partedJob_31 : decode mt_M_partedJob.2.1 31 = .ok (.iaload, 1) := by decide +kernel
theorem dd_M_partedJob_32 : decode mt_M_partedJob.2.1 32 = .ok (.ifCond .ne 48, 3) := by decide +kernel
theorem dd_M_partedJob_35 : decode mt_M_partedJob.2.1 35 = .ok (.aload_n 0, 1) := by decide +kernel
theorem dd_M_partedJob_36 : decode mt_M_partedJob.2.1 36 = .ok (.getfield 23, 3) := by decide +kernel
theorem dd_M_partedJob_39 : decode mt_M_partedJob.2.1 39 = .ok (.iload_n 3, 1) := by decide +kernel
theorem dd_M_partedJob_40 : decode mt_M_partedJob.2.1 40 = .ok (.baload, 1) := by decide +kernel
theorem dd_M_partedJob_41 : decode mt_M_partedJob.2.1 41 = .ok (.ifCond .ne 39, 3) := by decide +kernel
theorem dd_M_partedJob_44 : decode mt_M_partedJob.2.1 44 = .ok (.aload_n 0, 1) := by decide +kernel
theorem dd_M_partedJob_45 : decode mt_M_partedJob.2.1 45 = .ok (.getfield 65, 3) := by decide +kernel
theorem dd_M_partedJob_48 : decode mt_M_partedJob.2.1 48 = .ok (.iload_n 3, 1) := by decide +kernel
theorem dd_M_partedJob_49 : decode mt_M_partedJob.2.1 49 = .ok (.baload, 1) := by decide +kernel
theorem dd_M_partedJob_50 : decode mt_M_partedJob.2.1 50 = .ok (.ifCond .ne 30, 3) := by decide +kernel
theorem dd_M_partedJob_53 : decode mt_M_partedJob.2.1 53 = .ok (.aload_n 0, 1) := by decide +kernel
theorem dd_M_partedJob_54 : decode mt_M_partedJob.2.1 54 = .ok (.getfield 38, 3) := by decide +kernel
theorem dd_M_partedJob_57 : decode mt_M_partedJob.2.1 57 = .ok (.iload_n 3, 1) := by decide +kernel
theorem dd_M_partedJob_58 : decode mt_M_partedJob.2.1 58 = .ok (.iaload, 1) := by decide +kernel
theorem dd_M_partedJob_59 : decode mt_M_partedJob.2.1 59 = .ok (.bipush 16, 2) := by decide +kernel
theorem dd_M_partedJob_61 : decode mt_M_partedJob.2.1 61 = .ok (.if_icmp .ne 13, 3) := by decide +kernel
theorem dd_M_partedJob_64 : decode mt_M_partedJob.2.1 64 = .ok (.aload_n 0, 1) := by decide +kernel
theorem dd_M_partedJob_65 : decode mt_M_partedJob.2.1 65 = .ok (.iload_n 3, 1) := by decide +kernel
theorem dd_M_partedJob_66 : decode mt_M_partedJob.2.1 66 = .ok (.bipush 101, 2) := by decide +kernel
theorem dd_M_partedJob_68 : decode mt_M_partedJob.2.1 68 = .ok (.invokevirtual 192, 3) := by decide +kernel
theorem dd_M_partedJob_71 : decode mt_M_partedJob.2.1 71 = .ok (.goto 9, 3) := by decide +kernel
theorem dd_M_partedJob_74 : decode mt_M_partedJob.2.1 74 = .ok (.aload_n 0, 1) := by decide +kernel
theorem dd_M_partedJob_75 : decode mt_M_partedJob.2.1 75 = .ok (.iload_n 3, 1) := by decide +kernel
theorem dd_M_partedJob_76 : decode mt_M_partedJob.2.1 76 = .ok (.iload_n 2, 1) := by decide +kernel
theorem dd_M_partedJob_77 : decode mt_M_partedJob.2.1 77 = .ok (.invokevirtual 233, 3) := by decide +kernel
theorem dd_M_partedJob_80 : decode mt_M_partedJob.2.1 80 = .ok (.iinc 3 1, 3) := by decide +kernel
theorem dd_M_partedJob_83 : decode mt_M_partedJob.2.1 83 = .ok (.goto (-69), 3) := by decide +kernel
theorem dd_M_partedJob_86 : decode mt_M_partedJob.2.1 86 = .ok (.aload_n 0, 1) := by decide +kernel
theorem dd_M_partedJob_87 : decode mt_M_partedJob.2.1 87 = .ok (.getfield 59, 3) := by decide +kernel
theorem dd_M_partedJob_90 : decode mt_M_partedJob.2.1 90 = .ok (.iload_n 1, 1) := by decide +kernel
theorem dd_M_partedJob_91 : decode mt_M_partedJob.2.1 91 = .ok (.iconst 0, 1) := by decide +kernel
theorem dd_M_partedJob_92 : decode mt_M_partedJob.2.1 92 = .ok (.bastore, 1) := by decide +kernel
theorem dd_M_partedJob_93 : decode mt_M_partedJob.2.1 93 = .ok (.aload_n 0, 1) := by decide +kernel
theorem dd_M_partedJob_94 : decode mt_M_partedJob.2.1 94 = .ok (.getfield 62, 3) := by decide +kernel
theorem dd_M_partedJob_97 : decode mt_M_partedJob.2.1 97 = .ok (.iload_n 1, 1) := by decide +kernel
theorem dd_M_partedJob_98 : decode mt_M_partedJob.2.1 98 = .ok (.baload, 1) := by decide +kernel
theorem dd_M_partedJob_99 : decode mt_M_partedJob.2.1 99 = .ok (.ifCond .eq 8, 3) := by decide +kernel
theorem dd_M_partedJob_102 : decode mt_M_partedJob.2.1 102 = .ok (.aload_n 0, 1) := by decide +kernel
theorem dd_M_partedJob_103 : decode mt_M_partedJob.2.1 103 = .ok (.iload_n 1, 1) := by decide +kernel
theorem dd_M_partedJob_104 : decode mt_M_partedJob.2.1 104 = .ok (.invokevirtual 215, 3) := by decide +kernel
theorem dd_M_partedJob_107 : decode mt_M_partedJob.2.1 107 = .ok (.return_, 1) := by decide +kernel
theorem dd_M_asks_0 : decode mt_M_asks.2.1 0 = .ok (.iconst 0, 1) := by decide +kernel
theorem dd_M_asks_1 : decode mt_M_asks.2.1 1 = .ok (.istore_n 2, 1) := by decide +kernel
theorem dd_M_asks_2 : decode mt_M_asks.2.1 2 = .ok (.iconst 0, 1) := by decide +kernel
theorem dd_M_asks_3 : decode mt_M_asks.2.1 3 = .ok (.istore_n 3, 1) := by decide +kernel
theorem dd_M_asks_4 : decode mt_M_asks.2.1 4 = .ok (.iload_n 3, 1) := by decide +kernel
theorem dd_M_asks_5 : decode mt_M_asks.2.1 5 = .ok (.aload_n 0, 1) := by decide +kernel
theorem dd_M_asks_6 : decode mt_M_asks.2.1 6 = .ok (.getfield 44, 3) := by decide +kernel
theorem dd_M_asks_9 : decode mt_M_asks.2.1 9 = .ok (.aload_n 0, 1) := by decide +kernel
theorem dd_M_asks_10 : decode mt_M_asks.2.1 10 = .ok (.getfield 113, 3) := by decide +kernel
theorem dd_M_asks_13 : decode mt_M_asks.2.1 13 = .ok (.iload_n 1, 1) := by decide +kernel
theorem dd_M_asks_14 : decode mt_M_asks.2.1 14 = .ok (.iaload, 1) := by decide +kernel
theorem dd_M_asks_15 : decode mt_M_asks.2.1 15 = .ok (.iaload, 1) := by decide +kernel
theorem dd_M_asks_16 : decode mt_M_asks.2.1 16 = .ok (.if_icmp .ge 42, 3) := by decide +kernel
theorem dd_M_asks_19 : decode mt_M_asks.2.1 19 = .ok (.iload_n 2, 1) := by decide +kernel
theorem dd_M_asks_20 : decode mt_M_asks.2.1 20 = .ok (.ifCond .ne 26, 3) := by decide +kernel
theorem dd_M_asks_23 : decode mt_M_asks.2.1 23 = .ok (.aload_n 0, 1) := by decide +kernel
theorem dd_M_asks_24 : decode mt_M_asks.2.1 24 = .ok (.getfield 41, 3) := by decide +kernel
theorem dd_M_asks_27 : decode mt_M_asks.2.1 27 = .ok (.bipush 8, 2) := by decide +kernel
theorem dd_M_asks_29 : decode mt_M_asks.2.1 29 = .ok (.aload_n 0, 1) := by decide +kernel
theorem dd_M_asks_30 : decode mt_M_asks.2.1 30 = .ok (.getfield 113, 3) := by decide +kernel
theorem dd_M_asks_33 : decode mt_M_asks.2.1 33 = .ok (.iload_n 1, 1) := by decide +kernel
theorem dd_M_asks_34 : decode mt_M_asks.2.1 34 = .ok (.iaload, 1) := by decide +kernel
theorem dd_M_asks_35 : decode mt_M_asks.2.1 35 = .ok (.imul, 1) := by decide +kernel
theorem dd_M_asks_36 : decode mt_M_asks.2.1 36 = .ok (.iload_n 3, 1) := by decide +kernel
theorem dd_M_asks_37 : decode mt_M_asks.2.1 37 = .ok (.iadd, 1) := by decide +kernel
theorem dd_M_asks_38 : decode mt_M_asks.2.1 38 = .ok (.iaload, 1) := by decide +kernel
theorem dd_M_asks_39 : decode mt_M_asks.2.1 39 = .ok (.bipush (-2), 2) := by decide +kernel
theorem dd_M_asks_41 : decode mt_M_asks.2.1 41 = .ok (.iload_n 1, 1) := by decide +kernel
theorem dd_M_asks_42 : decode mt_M_asks.2.1 42 = .ok (.isub, 1) := by decide +kernel
theorem dd_M_asks_43 : decode mt_M_asks.2.1 43 = .ok (.if_icmp .ne 7, 3) := by decide +kernel
theorem dd_M_asks_46 : decode mt_M_asks.2.1 46 = .ok (.iconst 1, 1) := by decide +kernel
theorem dd_M_asks_47 : decode mt_M_asks.2.1 47 = .ok (.goto 4, 3) := by decide +kernel
theorem dd_M_asks_50 : decode mt_M_asks.2.1 50 = .ok (.iconst 0, 1) := by decide +kernel
theorem dd_M_asks_51 : decode mt_M_asks.2.1 51 = .ok (.istore_n 2, 1) := by decide +kernel
theorem dd_M_asks_52 : decode mt_M_asks.2.1 52 = .ok (.iinc 3 1, 3) := by decide +kernel
theorem dd_M_asks_55 : decode mt_M_asks.2.1 55 = .ok (.goto (-51), 3) := by decide +kernel
theorem dd_M_asks_58 : decode mt_M_asks.2.1 58 = .ok (.iload_n 2, 1) := by decide +kernel
theorem dd_M_asks_59 : decode mt_M_asks.2.1 59 = .ok (.ireturn, 1) := by decide +kernel
theorem dd_M_finish_0 : decode mt_M_finish.2.1 0 = .ok (.aload_n 0, 1) := by decide +kernel
theorem dd_M_finish_1 : decode mt_M_finish.2.1 1 = .ok (.getfield 113, 3) := by decide +kernel
theorem dd_M_finish_4 : decode mt_M_finish.2.1 4 = .ok (.iload_n 1, 1) := by decide +kernel
theorem dd_M_finish_5 : decode mt_M_finish.2.1 5 = .ok (.iaload, 1) := by decide +kernel
theorem dd_M_finish_6 : decode mt_M_finish.2.1 6 = .ok (.istore 4, 2) := by decide +kernel
theorem dd_M_finish_8 : decode mt_M_finish.2.1 8 = .ok (.aload_n 0, 1) := by decide +kernel
theorem dd_M_finish_9 : decode mt_M_finish.2.1 9 = .ok (.getfield 122, 3) := by decide +kernel
theorem dd_M_finish_12 : decode mt_M_finish.2.1 12 = .ok (.iload_n 1, 1) := by decide +kernel
theorem dd_M_finish_13 : decode mt_M_finish.2.1 13 = .ok (.iconst 1, 1) := by decide +kernel
theorem dd_M_finish_14 : decode mt_M_finish.2.1 14 = .ok (.bastore, 1) := by decide +kernel
theorem dd_M_finish_15 : decode mt_M_finish.2.1 15 = .ok (.aload_n 0, 1) := by decide +kernel
theorem dd_M_finish_16 : decode mt_M_finish.2.1 16 = .ok (.getfield 32, 3) := by decide +kernel
theorem dd_M_finish_19 : decode mt_M_finish.2.1 19 = .ok (.iload 4, 2) := by decide +kernel
theorem dd_M_finish_21 : decode mt_M_finish.2.1 21 = .ok (.iconst 0, 1) := by decide +kernel
theorem dd_M_finish_22 : decode mt_M_finish.2.1 22 = .ok (.iastore, 1) := by decide +kernel
theorem dd_M_finish_23 : decode mt_M_finish.2.1 23 = .ok (.aload_n 0, 1) := by decide +kernel
theorem dd_M_finish_24 : decode mt_M_finish.2.1 24 = .ok (.getfield 107, 3) := by decide +kernel
theorem dd_M_finish_27 : decode mt_M_finish.2.1 27 = .ok (.aload_n 0, 1) := by decide +kernel
theorem dd_M_finish_28 : decode mt_M_finish.2.1 28 = .ok (.getfield 116, 3) := by decide +kernel
theorem dd_M_finish_31 : decode mt_M_finish.2.1 31 = .ok (.iload_n 1, 1) := by decide +kernel
theorem dd_M_finish_32 : decode mt_M_finish.2.1 32 = .ok (.iaload, 1) := by decide +kernel
theorem dd_M_finish_33 : decode mt_M_finish.2.1 33 = .ok (.iconst 0, 1) := by decide +kernel
theorem dd_M_finish_34 : decode mt_M_finish.2.1 34 = .ok (.bastore, 1) := by decide +kernel
theorem dd_M_finish_35 : decode mt_M_finish.2.1 35 = .ok (.iconst 0, 1) := by decide +kernel
theorem dd_M_finish_36 : decode mt_M_finish.2.1 36 = .ok (.istore 5, 2) := by decide +kernel
theorem dd_M_finish_38 : decode mt_M_finish.2.1 38 = .ok (.iconst 0, 1) := by decide +kernel
theorem dd_M_finish_39 : decode mt_M_finish.2.1 39 = .ok (.istore 6, 2) := by decide +kernel
theorem dd_M_finish_41 : decode mt_M_finish.2.1 41 = .ok (.iload 6, 2) := by decide +kernel
theorem dd_M_finish_43 : decode mt_M_finish.2.1 43 = .ok (.aload_n 0, 1) := by decide +kernel
theorem dd_M_finish_44 : decode mt_M_finish.2.1 44 = .ok (.getfield 44, 3) := by decide +kernel
theorem dd_M_finish_47 : decode mt_M_finish.2.1 47 = .ok (.iload 4, 2) := by decide +kernel
theorem dd_M_finish_49 : decode mt_M_finish.2.1 49 = .ok (.iaload, 1) := by decide +kernel
theorem dd_M_finish_50 : decode mt_M_finish.2.1 50 = .ok (.if_icmp .ge 51, 3) := by decide +kernel
theorem dd_M_finish_53 : decode mt_M_finish.2.1 53 = .ok (.aload_n 0, 1) := by decide +kernel
theorem dd_M_finish_54 : decode mt_M_finish.2.1 54 = .ok (.getfield 41, 3) := by decide +kernel
theorem dd_M_finish_57 : decode mt_M_finish.2.1 57 = .ok (.bipush 8, 2) := by decide +kernel
theorem dd_M_finish_59 : decode mt_M_finish.2.1 59 = .ok (.iload 4, 2) := by decide +kernel
theorem dd_M_finish_61 : decode mt_M_finish.2.1 61 = .ok (.imul, 1) := by decide +kernel
theorem dd_M_finish_62 : decode mt_M_finish.2.1 62 = .ok (.iload 6, 2) := by decide +kernel
theorem dd_M_finish_64 : decode mt_M_finish.2.1 64 = .ok (.iadd, 1) := by decide +kernel
theorem dd_M_finish_65 : decode mt_M_finish.2.1 65 = .ok (.iaload, 1) := by decide +kernel
theorem dd_M_finish_66 : decode mt_M_finish.2.1 66 = .ok (.istore 7, 2) := by decide +kernel
theorem dd_M_finish_68 : decode mt_M_finish.2.1 68 = .ok (.iload 7, 2) := by decide +kernel
theorem dd_M_finish_70 : decode mt_M_finish.2.1 70 = .ok (.bipush (-2), 2) := by decide +kernel
theorem dd_M_finish_72 : decode mt_M_finish.2.1 72 = .ok (.iload_n 1, 1) := by decide +kernel
theorem dd_M_finish_73 : decode mt_M_finish.2.1 73 = .ok (.isub, 1) := by decide +kernel
theorem dd_M_finish_74 : decode mt_M_finish.2.1 74 = .ok (.if_icmp .eq 21, 3) := by decide +kernel
theorem dd_M_finish_77 : decode mt_M_finish.2.1 77 = .ok (.aload_n 0, 1) := by decide +kernel
theorem dd_M_finish_78 : decode mt_M_finish.2.1 78 = .ok (.getfield 41, 3) := by decide +kernel
theorem dd_M_finish_81 : decode mt_M_finish.2.1 81 = .ok (.bipush 8, 2) := by decide +kernel
theorem dd_M_finish_83 : decode mt_M_finish.2.1 83 = .ok (.iload 4, 2) := by decide +kernel
theorem dd_M_finish_85 : decode mt_M_finish.2.1 85 = .ok (.imul, 1) := by decide +kernel
theorem dd_M_finish_86 : decode mt_M_finish.2.1 86 = .ok (.iload 5, 2) := by decide +kernel
theorem dd_M_finish_88 : decode mt_M_finish.2.1 88 = .ok (.iadd, 1) := by decide +kernel
theorem dd_M_finish_89 : decode mt_M_finish.2.1 89 = .ok (.iload 7, 2) := by decide +kernel
theorem dd_M_finish_91 : decode mt_M_finish.2.1 91 = .ok (.iastore, 1) := by decide +kernel
theorem dd_M_finish_92 : decode mt_M_finish.2.1 92 = .ok (.iinc 5 1, 3) := by decide +kernel
theorem dd_M_finish_95 : decode mt_M_finish.2.1 95 = .ok (.iinc 6 1, 3) := by decide +kernel
theorem dd_M_finish_98 : decode mt_M_finish.2.1 98 = .ok (.goto (-57), 3) := by decide +kernel
theorem dd_M_finish_101 : decode mt_M_finish.2.1 101 = .ok (.aload_n 0, 1) := by decide +kernel
theorem dd_M_finish_102 : decode mt_M_finish.2.1 102 = .ok (.getfield 44, 3) := by decide +kernel
theorem dd_M_finish_105 : decode mt_M_finish.2.1 105 = .ok (.iload 4, 2) := by decide +kernel
theorem dd_M_finish_107 : decode mt_M_finish.2.1 107 = .ok (.iload 5, 2) := by decide +kernel
theorem dd_M_finish_109 : decode mt_M_finish.2.1 109 = .ok (.iastore, 1) := by decide +kernel
theorem dd_M_finish_110 : decode mt_M_finish.2.1 110 = .ok (.aload_n 0, 1) := by decide +kernel
theorem dd_M_finish_111 : decode mt_M_finish.2.1 111 = .ok (.iload_n 2, 1) := by decide +kernel
theorem dd_M_finish_112 : decode mt_M_finish.2.1 112 = .ok (.iload_n 1, 1) := by decide +kernel
theorem dd_M_finish_113 : decode mt_M_finish.2.1 113 = .ok (.iload_n 3, 1) := by decide +kernel
theorem dd_M_finish_114 : decode mt_M_finish.2.1 114 = .ok (.iconst 0, 1) := by decide +kernel
theorem dd_M_finish_115 : decode mt_M_finish.2.1 115 = .ok (.invokevirtual 160, 3) := by decide +kernel
theorem dd_M_finish_118 : decode mt_M_finish.2.1 118 = .ok (.return_, 1) := by decide +kernel
theorem dd_M_pump_0 : decode mt_M_pump.2.1 0 = .ok (.aload_n 0, 1) := by decide +kernel
theorem dd_M_pump_1 : decode mt_M_pump.2.1 1 = .ok (.getfield 122, 3) := by decide +kernel
theorem dd_M_pump_4 : decode mt_M_pump.2.1 4 = .ok (.iload_n 1, 1) := by decide +kernel
theorem dd_M_pump_5 : decode mt_M_pump.2.1 5 = .ok (.baload, 1) := by decide +kernel
theorem dd_M_pump_6 : decode mt_M_pump.2.1 6 = .ok (.ifCond .eq 5, 3) := by decide +kernel
theorem dd_M_pump_9 : decode mt_M_pump.2.1 9 = .ok (.iconst 0, 1) := by decide +kernel
theorem dd_M_pump_10 : decode mt_M_pump.2.1 10 = .ok (.ireturn, 1) := by decide +kernel
theorem dd_M_pump_11 : decode mt_M_pump.2.1 11 = .ok (.aload_n 0, 1) := by decide +kernel
theorem dd_M_pump_12 : decode mt_M_pump.2.1 12 = .ok (.getfield 113, 3) := by decide +kernel
theorem dd_M_pump_15 : decode mt_M_pump.2.1 15 = .ok (.iload_n 1, 1) := by decide +kernel
theorem dd_M_pump_16 : decode mt_M_pump.2.1 16 = .ok (.iaload, 1) := by decide +kernel
theorem dd_M_pump_17 : decode mt_M_pump.2.1 17 = .ok (.istore_n 2, 1) := by decide +kernel
theorem dd_M_pump_18 : decode mt_M_pump.2.1 18 = .ok (.aload_n 0, 1) := by decide +kernel
theorem dd_M_pump_19 : decode mt_M_pump.2.1 19 = .ok (.getfield 116, 3) := by decide +kernel
theorem dd_M_pump_22 : decode mt_M_pump.2.1 22 = .ok (.iload_n 1, 1) := by decide +kernel
theorem dd_M_pump_23 : decode mt_M_pump.2.1 23 = .ok (.iaload, 1) := by decide +kernel
theorem dd_M_pump_24 : decode mt_M_pump.2.1 24 = .ok (.istore_n 3, 1) := by decide +kernel
theorem dd_M_pump_25 : decode mt_M_pump.2.1 25 = .ok (.aload_n 0, 1) := by decide +kernel
theorem dd_M_pump_26 : decode mt_M_pump.2.1 26 = .ok (.getfield 7, 3) := by decide +kernel
theorem dd_M_pump_29 : decode mt_M_pump.2.1 29 = .ok (.iload_n 2, 1) := by decide +kernel
theorem dd_M_pump_30 : decode mt_M_pump.2.1 30 = .ok (.iaload, 1) := by decide +kernel
theorem dd_M_pump_31 : decode mt_M_pump.2.1 31 = .ok (.iconst 2, 1) := by decide +kernel
theorem dd_M_pump_32 : decode mt_M_pump.2.1 32 = .ok (.if_icmp .ne 41, 3) := by decide +kernel
theorem dd_M_pump_35 : decode mt_M_pump.2.1 35 = .ok (.aload_n 0, 1) := by decide +kernel
theorem dd_M_pump_36 : decode mt_M_pump.2.1 36 = .ok (.getfield 13, 3) := by decide +kernel
theorem dd_M_pump_39 : decode mt_M_pump.2.1 39 = .ok (.iload_n 2, 1) := by decide +kernel
theorem dd_M_pump_40 : decode mt_M_pump.2.1 40 = .ok (.iaload, 1) := by decide +kernel
theorem dd_M_pump_41 : decode mt_M_pump.2.1 41 = .ok (.istore 4, 2) := by decide +kernel
theorem dd_M_pump_43 : decode mt_M_pump.2.1 43 = .ok (.aload_n 0, 1) := by decide +kernel
theorem dd_M_pump_44 : decode mt_M_pump.2.1 44 = .ok (.getfield 119, 3) := by decide +kernel
theorem dd_M_pump_47 : decode mt_M_pump.2.1 47 = .ok (.iload_n 1, 1) := by decide +kernel
theorem dd_M_pump_48 : decode mt_M_pump.2.1 48 = .ok (.iaload, 1) := by decide +kernel
theorem dd_M_pump_49 : decode mt_M_pump.2.1 49 = .ok (.iconst 2, 1) := by decide +kernel
theorem dd_M_pump_50 : decode mt_M_pump.2.1 50 = .ok (.iand, 1) := by decide +kernel
theorem dd_M_pump_51 : decode mt_M_pump.2.1 51 = .ok (.ifCond .ne 10, 3) := by decide +kernel
theorem dd_M_pump_54 : decode mt_M_pump.2.1 54 = .ok (.aload_n 0, 1) := by decide +kernel
theorem dd_M_pump_55 : decode mt_M_pump.2.1 55 = .ok (.iload_n 3, 1) := by decide +kernel
theorem dd_M_pump_56 : decode mt_M_pump.2.1 56 = .ok (.iload 4, 2) := by decide +kernel
theorem dd_M_pump_58 : decode mt_M_pump.2.1 58 = .ok (.invokevirtual 236, 3) := by decide +kernel
theorem dd_M_pump_61 : decode mt_M_pump.2.1 61 = .ok (.aload_n 0, 1) := by decide +kernel
theorem dd_M_pump_62 : decode mt_M_pump.2.1 62 = .ok (.iload_n 1, 1) := by decide +kernel
theorem dd_M_pump_63 : decode mt_M_pump.2.1 63 = .ok (.bipush 16, 2) := by decide +kernel
theorem dd_M_pump_65 : decode mt_M_pump.2.1 65 = .ok (.iload 4, 2) := by decide +kernel
theorem dd_M_pump_67 : decode mt_M_pump.2.1 67 = .ok (.invokevirtual 239, 3) := by decide +kernel
theorem dd_M_pump_70 : decode mt_M_pump.2.1 70 = .ok (.goto 206, 3) := by decide +kernel
theorem dd_M_pump_73 : decode mt_M_pump.2.1 73 = .ok (.aload_n 0, 1) := by decide +kernel
theorem dd_M_pump_74 : decode mt_M_pump.2.1 74 = .ok (.getfield 68, 3) := by decide +kernel
theorem dd_M_pump_77 : decode mt_M_pump.2.1 77 = .ok (.iload_n 3, 1) := by decide +kernel
theorem dd_M_pump_78 : decode mt_M_pump.2.1 78 = .ok (.iaload, 1) := by decide +kernel
theorem dd_M_pump_79 : decode mt_M_pump.2.1 79 = .ok (.iconst 1, 1) := by decide +kernel
theorem dd_M_pump_80 : decode mt_M_pump.2.1 80 = .ok (.if_icmp .eq 13, 3) := by decide +kernel
theorem dd_M_pump_83 : decode mt_M_pump.2.1 83 = .ok (.aload_n 0, 1) := by decide +kernel
theorem dd_M_pump_84 : decode mt_M_pump.2.1 84 = .ok (.getfield 68, 3) := by decide +kernel
theorem dd_M_pump_87 : decode mt_M_pump.2.1 87 = .ok (.iload_n 3, 1) := by decide +kernel
theorem dd_M_pump_88 : decode mt_M_pump.2.1 88 = .ok (.iaload, 1) := by decide +kernel
theorem dd_M_pump_89 : decode mt_M_pump.2.1 89 = .ok (.iconst 2, 1) := by decide +kernel
theorem dd_M_pump_90 : decode mt_M_pump.2.1 90 = .ok (.if_icmp .ne 41, 3) := by decide +kernel
theorem dd_M_pump_93 : decode mt_M_pump.2.1 93 = .ok (.aload_n 0, 1) := by decide +kernel
theorem dd_M_pump_94 : decode mt_M_pump.2.1 94 = .ok (.getfield 71, 3) := by decide +kernel
theorem dd_M_pump_97 : decode mt_M_pump.2.1 97 = .ok (.iload_n 3, 1) := by decide +kernel
theorem dd_M_pump_98 : decode mt_M_pump.2.1 98 = .ok (.iaload, 1) := by decide +kernel
theorem dd_M_pump_99 : decode mt_M_pump.2.1 99 = .ok (.istore 4, 2) := by decide +kernel
theorem dd_M_pump_101 : decode mt_M_pump.2.1 101 = .ok (.aload_n 0, 1) := by decide +kernel
theorem dd_M_pump_102 : decode mt_M_pump.2.1 102 = .ok (.getfield 119, 3) := by decide +kernel
theorem dd_M_pump_105 : decode mt_M_pump.2.1 105 = .ok (.iload_n 1, 1) := by decide +kernel
theorem dd_M_pump_106 : decode mt_M_pump.2.1 106 = .ok (.iaload, 1) := by decide +kernel
theorem dd_M_pump_107 : decode mt_M_pump.2.1 107 = .ok (.iconst 4, 1) := by decide +kernel
theorem dd_M_pump_108 : decode mt_M_pump.2.1 108 = .ok (.iand, 1) := by decide +kernel
theorem dd_M_pump_109 : decode mt_M_pump.2.1 109 = .ok (.ifCond .ne 10, 3) := by decide +kernel
theorem dd_M_pump_112 : decode mt_M_pump.2.1 112 = .ok (.aload_n 0, 1) := by decide +kernel
theorem dd_M_pump_113 : decode mt_M_pump.2.1 113 = .ok (.iload_n 2, 1) := by decide +kernel
theorem dd_M_pump_114 : decode mt_M_pump.2.1 114 = .ok (.iload 4, 2) := by decide +kernel
theorem dd_M_pump_116 : decode mt_M_pump.2.1 116 = .ok (.invokevirtual 242, 3) := by decide +kernel
theorem dd_M_pump_119 : decode mt_M_pump.2.1 119 = .ok (.aload_n 0, 1) := by decide +kernel
theorem dd_M_pump_120 : decode mt_M_pump.2.1 120 = .ok (.iload_n 1, 1) := by decide +kernel
theorem dd_M_pump_121 : decode mt_M_pump.2.1 121 = .ok (.bipush 16, 2) := by decide +kernel
theorem dd_M_pump_123 : decode mt_M_pump.2.1 123 = .ok (.iload 4, 2) := by decide +kernel
theorem dd_M_pump_125 : decode mt_M_pump.2.1 125 = .ok (.invokevirtual 239, 3) := by decide +kernel
theorem dd_M_pump_128 : decode mt_M_pump.2.1 128 = .ok (.goto 148, 3) := by decide +kernel
theorem dd_M_pump_131 : decode mt_M_pump.2.1 131 = .ok (.aload_n 0, 1) := by decide +kernel
theorem dd_M_pump_132 : decode mt_M_pump.2.1 132 = .ok (.getfield 7, 3) := by decide +kernel
theorem dd_M_pump_135 : decode mt_M_pump.2.1 135 = .ok (.iload_n 2, 1) := by decide +kernel
theorem dd_M_pump_136 : decode mt_M_pump.2.1 136 = .ok (.iaload, 1) := by decide +kernel
theorem dd_M_pump_137 : decode mt_M_pump.2.1 137 = .ok (.iconst 1, 1) := by decide +kernel
theorem dd_M_pump_138 : decode mt_M_pump.2.1 138 = .ok (.if_icmp .ne 41, 3) := by decide +kernel
theorem dd_M_pump_141 : decode mt_M_pump.2.1 141 = .ok (.aload_n 0, 1) := by decide +kernel
theorem dd_M_pump_142 : decode mt_M_pump.2.1 142 = .ok (.getfield 86, 3) := by decide +kernel
theorem dd_M_pump_145 : decode mt_M_pump.2.1 145 = .ok (.iload_n 3, 1) := by decide +kernel
theorem dd_M_pump_146 : decode mt_M_pump.2.1 146 = .ok (.iaload, 1) := by decide +kernel
theorem dd_M_pump_147 : decode mt_M_pump.2.1 147 = .ok (.ifCond .le 5, 3) := by decide +kernel
theorem dd_M_pump_150 : decode mt_M_pump.2.1 150 = .ok (.iconst 0, 1) := by decide +kernel
theorem dd_M_pump_151 : decode mt_M_pump.2.1 151 = .ok (.ireturn, 1) := by decide +kernel
theorem dd_M_pump_152 : decode mt_M_pump.2.1 152 = .ok (.aload_n 0, 1) := by decide +kernel
theorem dd_M_pump_153 : decode mt_M_pump.2.1 153 = .ok (.getfield 119, 3) := by decide +kernel
theorem dd_M_pump_156 : decode mt_M_pump.2.1 156 = .ok (.iload_n 1, 1) := by decide +kernel
theorem dd_M_pump_157 : decode mt_M_pump.2.1 157 = .ok (.iaload, 1) := by decide +kernel
theorem dd_M_pump_158 : decode mt_M_pump.2.1 158 = .ok (.iconst 1, 1) := by decide +kernel
theorem dd_M_pump_159 : decode mt_M_pump.2.1 159 = .ok (.iand, 1) := by decide +kernel
theorem dd_M_pump_160 : decode mt_M_pump.2.1 160 = .ok (.ifCond .ne 8, 3) := by decide +kernel
theorem dd_M_pump_163 : decode mt_M_pump.2.1 163 = .ok (.aload_n 0, 1) := by decide +kernel
theorem dd_M_pump_164 : decode mt_M_pump.2.1 164 = .ok (.iload_n 3, 1) := by decide +kernel
theorem dd_M_pump_165 : decode mt_M_pump.2.1 165 = .ok (.invokevirtual 245, 3) := by decide +kernel
theorem dd_M_pump_168 : decode mt_M_pump.2.1 168 = .ok (.aload_n 0, 1) := by decide +kernel
theorem dd_M_pump_169 : decode mt_M_pump.2.1 169 = .ok (.iload_n 1, 1) := by decide +kernel
theorem dd_M_pump_170 : decode mt_M_pump.2.1 170 = .ok (.bipush 15, 2) := by decide +kernel
theorem dd_M_pump_172 : decode mt_M_pump.2.1 172 = .ok (.iconst 0, 1) := by decide +kernel
theorem dd_M_pump_173 : decode mt_M_pump.2.1 173 = .ok (.invokevirtual 239, 3) := by decide +kernel
theorem dd_M_pump_176 : decode mt_M_pump.2.1 176 = .ok (.goto 100, 3) := by decide +kernel
theorem dd_M_pump_179 : decode mt_M_pump.2.1 179 = .ok (.aload_n 0, 1) := by decide +kernel
theorem dd_M_pump_180 : decode mt_M_pump.2.1 180 = .ok (.getfield 92, 3) := by decide +kernel
theorem dd_M_pump_183 : decode mt_M_pump.2.1 183 = .ok (.iload_n 3, 1) := by decide +kernel
theorem dd_M_pump_184 : decode mt_M_pump.2.1 184 = .ok (.baload, 1) := by decide +kernel
theorem dd_M_pump_185 : decode mt_M_pump.2.1 185 = .ok (.ifCond .ne 23, 3) := by decide +kernel
theorem dd_M_pump_188 : decode mt_M_pump.2.1 188 = .ok (.aload_n 0, 1) := by decide +kernel
theorem dd_M_pump_189 : decode mt_M_pump.2.1 189 = .ok (.getfield 95, 3) := by decide +kernel
theorem dd_M_pump_192 : decode mt_M_pump.2.1 192 = .ok (.iload_n 3, 1) := by decide +kernel
theorem dd_M_pump_193 : decode mt_M_pump.2.1 193 = .ok (.iaload, 1) := by decide +kernel
theorem dd_M_pump_194 : decode mt_M_pump.2.1 194 = .ok (.iconst 4, 1) := by decide +kernel
theorem dd_M_pump_195 : decode mt_M_pump.2.1 195 = .ok (.if_icmp .eq 13, 3) := by decide +kernel
theorem dd_M_pump_198 : decode mt_M_pump.2.1 198 = .ok (.aload_n 0, 1) := by decide +kernel
theorem dd_M_pump_199 : decode mt_M_pump.2.1 199 = .ok (.getfield 68, 3) := by decide +kernel
theorem dd_M_pump_202 : decode mt_M_pump.2.1 202 = .ok (.iload_n 3, 1) := by decide +kernel
theorem dd_M_pump_203 : decode mt_M_pump.2.1 203 = .ok (.iaload, 1) := by decide +kernel
theorem dd_M_pump_204 : decode mt_M_pump.2.1 204 = .ok (.iconst 3, 1) := by decide +kernel
theorem dd_M_pump_205 : decode mt_M_pump.2.1 205 = .ok (.if_icmp .ne 33, 3) := by decide +kernel
theorem dd_M_pump_208 : decode mt_M_pump.2.1 208 = .ok (.aload_n 0, 1) := by decide +kernel
theorem dd_M_pump_209 : decode mt_M_pump.2.1 209 = .ok (.getfield 119, 3) := by decide +kernel
theorem dd_M_pump_212 : decode mt_M_pump.2.1 212 = .ok (.iload_n 1, 1) := by decide +kernel
theorem dd_M_pump_213 : decode mt_M_pump.2.1 213 = .ok (.iaload, 1) := by decide +kernel
theorem dd_M_pump_214 : decode mt_M_pump.2.1 214 = .ok (.iconst 4, 1) := by decide +kernel
theorem dd_M_pump_215 : decode mt_M_pump.2.1 215 = .ok (.iand, 1) := by decide +kernel
theorem dd_M_pump_216 : decode mt_M_pump.2.1 216 = .ok (.ifCond .ne 10, 3) := by decide +kernel
theorem dd_M_pump_219 : decode mt_M_pump.2.1 219 = .ok (.aload_n 0, 1) := by decide +kernel
theorem dd_M_pump_220 : decode mt_M_pump.2.1 220 = .ok (.iload_n 2, 1) := by decide +kernel
theorem dd_M_pump_221 : decode mt_M_pump.2.1 221 = .ok (.bipush 100, 2) := by decide +kernel
theorem dd_M_pump_223 : decode mt_M_pump.2.1 223 = .ok (.invokevirtual 242, 3) := by decide +kernel
theorem dd_M_pump_226 : decode mt_M_pump.2.1 226 = .ok (.aload_n 0, 1) := by decide +kernel
theorem dd_M_pump_227 : decode mt_M_pump.2.1 227 = .ok (.iload_n 1, 1) := by decide +kernel
theorem dd_M_pump_228 : decode mt_M_pump.2.1 228 = .ok (.bipush 16, 2) := by decide +kernel
theorem dd_M_pump_230 : decode mt_M_pump.2.1 230 = .ok (.bipush 100, 2) := by decide +kernel
theorem dd_M_pump_232 : decode mt_M_pump.2.1 232 = .ok (.invokevirtual 239, 3) := by decide +kernel
theorem dd_M_pump_235 : decode mt_M_pump.2.1 235 = .ok (.goto 41, 3) := by decide +kernel
theorem dd_M_pump_238 : decode mt_M_pump.2.1 238 = .ok (.aload_n 0, 1) := by decide +kernel
theorem dd_M_pump_239 : decode mt_M_pump.2.1 239 = .ok (.iload_n 1, 1) := by decide +kernel
theorem dd_M_pump_240 : decode mt_M_pump.2.1 240 = .ok (.invokevirtual 248, 3) := by decide +kernel
theorem dd_M_pump_243 : decode mt_M_pump.2.1 243 = .ok (.ifCond .ne 22, 3) := by decide +kernel
theorem dd_M_pump_246 : decode mt_M_pump.2.1 246 = .ok (.aload_n 0, 1) := by decide +kernel
theorem dd_M_pump_247 : decode mt_M_pump.2.1 247 = .ok (.iload_n 3, 1) := by decide +kernel
theorem dd_M_pump_248 : decode mt_M_pump.2.1 248 = .ok (.invokevirtual 251, 3) := by decide +kernel
theorem dd_M_pump_251 : decode mt_M_pump.2.1 251 = .ok (.ifCond .le 14, 3) := by decide +kernel
theorem dd_M_pump_254 : decode mt_M_pump.2.1 254 = .ok (.aload_n 0, 1) := by decide +kernel
theorem dd_M_pump_255 : decode mt_M_pump.2.1 255 = .ok (.getfield 86, 3) := by decide +kernel
theorem dd_M_pump_258 : decode mt_M_pump.2.1 258 = .ok (.iload_n 3, 1) := by decide +kernel
theorem dd_M_pump_259 : decode mt_M_pump.2.1 259 = .ok (.iaload, 1) := by decide +kernel
theorem dd_M_pump_260 : decode mt_M_pump.2.1 260 = .ok (.bipush 16, 2) := by decide +kernel
theorem dd_M_pump_262 : decode mt_M_pump.2.1 262 = .ok (.if_icmp .ne 5, 3) := by decide +kernel
theorem dd_M_pump_265 : decode mt_M_pump.2.1 265 = .ok (.iconst 0, 1) := by decide +kernel
theorem dd_M_pump_266 : decode mt_M_pump.2.1 266 = .ok (.ireturn, 1) := by decide +kernel
theorem dd_M_pump_267 : decode mt_M_pump.2.1 267 = .ok (.aload_n 0, 1) := by decide +kernel
theorem dd_M_pump_268 : decode mt_M_pump.2.1 268 = .ok (.iload_n 2, 1) := by decide +kernel
theorem dd_M_pump_269 : decode mt_M_pump.2.1 269 = .ok (.bipush (-2), 2) := by decide +kernel
theorem dd_M_pump_271 : decode mt_M_pump.2.1 271 = .ok (.iload_n 1, 1) := by decide +kernel
theorem dd_M_pump_272 : decode mt_M_pump.2.1 272 = .ok (.isub, 1) := by decide +kernel
theorem dd_M_pump_273 : decode mt_M_pump.2.1 273 = .ok (.invokevirtual 254, 3) := by decide +kernel
theorem dd_M_pump_276 : decode mt_M_pump.2.1 276 = .ok (.iconst 1, 1) := by decide +kernel
theorem dd_M_pump_277 : decode mt_M_pump.2.1 277 = .ok (.ireturn, 1) := by decide +kernel
