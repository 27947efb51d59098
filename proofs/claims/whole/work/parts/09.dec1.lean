theorem dX0_gather_0 : decode cX0_gather 0 = .ok (.aload_n 0, 1) := by decide +kernel
theorem dX0_gather_1 : decode cX0_gather 1 = .ok (.iconst 0, 1) := by decide +kernel
theorem dX0_gather_2 : decode cX0_gather 2 = .ok (.putfield 9, 3) := by decide +kernel
theorem dX0_gather_5 : decode cX0_gather 5 = .ok (.iconst 0, 1) := by decide +kernel
theorem dX0_gather_6 : decode cX0_gather 6 = .ok (.istore_n 2, 1) := by decide +kernel
theorem dX0_gather_7 : decode cX0_gather 7 = .ok (.iload_n 2, 1) := by decide +kernel
theorem dX0_gather_8 : decode cX0_gather 8 = .ok (.iconst 5, 1) := by decide +kernel
theorem dX0_gather_9 : decode cX0_gather 9 = .ok (.if_icmp .ge 23, 3) := by decide +kernel
theorem dX0_gather_12 : decode cX0_gather 12 = .ok (.aload_n 0, 1) := by decide +kernel
theorem dX0_gather_13 : decode cX0_gather 13 = .ok (.getfield 32, 3) := by decide +kernel
theorem dX0_gather_16 : decode cX0_gather 16 = .ok (.iload_n 2, 1) := by decide +kernel
theorem dX0_gather_17 : decode cX0_gather 17 = .ok (.iconst 0, 1) := by decide +kernel
theorem dX0_gather_18 : decode cX0_gather 18 = .ok (.iastore, 1) := by decide +kernel
theorem dX0_gather_19 : decode cX0_gather 19 = .ok (.aload_n 0, 1) := by decide +kernel
theorem dX0_gather_20 : decode cX0_gather 20 = .ok (.getfield 35, 3) := by decide +kernel
theorem dX0_gather_23 : decode cX0_gather 23 = .ok (.iload_n 2, 1) := by decide +kernel
theorem dX0_gather_24 : decode cX0_gather 24 = .ok (.iconst 0, 1) := by decide +kernel
theorem dX0_gather_25 : decode cX0_gather 25 = .ok (.iastore, 1) := by decide +kernel
theorem dX0_gather_26 : decode cX0_gather 26 = .ok (.iinc 2 1, 3) := by decide +kernel
theorem dX0_gather_29 : decode cX0_gather 29 = .ok (.goto (-22), 3) := by decide +kernel
theorem dX0_gather_32 : decode cX0_gather 32 = .ok (.aload_n 1, 1) := by decide +kernel
theorem dX0_gather_33 : decode cX0_gather 33 = .ok (.invokevirtual 38, 3) := by decide +kernel
theorem dX0_gather_36 : decode cX0_gather 36 = .ok (.sipush 500, 3) := by decide +kernel
theorem dX0_gather_39 : decode cX0_gather 39 = .ok (.invokestatic 44, 3) := by decide +kernel
theorem dX0_gather_42 : decode cX0_gather 42 = .ok (.istore_n 2, 1) := by decide +kernel
theorem dX0_gather_43 : decode cX0_gather 43 = .ok (.iconst 0, 1) := by decide +kernel
theorem dX0_gather_44 : decode cX0_gather 44 = .ok (.istore_n 3, 1) := by decide +kernel
theorem dX0_gather_45 : decode cX0_gather 45 = .ok (.iload_n 3, 1) := by decide +kernel
theorem dX0_gather_46 : decode cX0_gather 46 = .ok (.iload_n 2, 1) := by decide +kernel
theorem dX0_gather_47 : decode cX0_gather 47 = .ok (.if_icmp .ge 14, 3) := by decide +kernel
theorem dX0_gather_50 : decode cX0_gather 50 = .ok (.aload_n 0, 1) := by decide +kernel
theorem dX0_gather_51 : decode cX0_gather 51 = .ok (.aload_n 1, 1) := by decide +kernel
theorem dX0_gather_52 : decode cX0_gather 52 = .ok (.invokevirtual 50, 3) := by decide +kernel
theorem dX0_gather_55 : decode cX0_gather 55 = .ok (.iinc 3 1, 3) := by decide +kernel
theorem dX0_gather_58 : decode cX0_gather 58 = .ok (.goto (-13), 3) := by decide +kernel
theorem dX0_gather_61 : decode cX0_gather 61 = .ok (.return_, 1) := by decide +kernel
theorem dX0_addNext_0 : decode cX0_addNext 0 = .ok (.iconst (-1), 1) := by decide +kernel
theorem dX0_addNext_1 : decode cX0_addNext 1 = .ok (.istore_n 2, 1) := by decide +kernel
theorem dX0_addNext_2 : decode cX0_addNext 2 = .ok (.sipush 3600, 3) := by decide +kernel
theorem dX0_addNext_5 : decode cX0_addNext 5 = .ok (.istore_n 3, 1) := by decide +kernel
theorem dX0_addNext_6 : decode cX0_addNext 6 = .ok (.iconst 0, 1) := by decide +kernel
theorem dX0_addNext_7 : decode cX0_addNext 7 = .ok (.istore 4, 2) := by decide +kernel
theorem dX0_addNext_9 : decode cX0_addNext 9 = .ok (.iload 4, 2) := by decide +kernel
theorem dX0_addNext_11 : decode cX0_addNext 11 = .ok (.aload_n 1, 1) := by decide +kernel
theorem dX0_addNext_12 : decode cX0_addNext 12 = .ok (.getfield 54, 3) := by decide +kernel
theorem dX0_addNext_15 : decode cX0_addNext 15 = .ok (.if_icmp .ge 30, 3) := by decide +kernel
theorem dX0_addNext_18 : decode cX0_addNext 18 = .ok (.aload_n 0, 1) := by decide +kernel
theorem dX0_addNext_19 : decode cX0_addNext 19 = .ok (.aload_n 1, 1) := by decide +kernel
theorem dX0_addNext_20 : decode cX0_addNext 20 = .ok (.iload 4, 2) := by decide +kernel
theorem dX0_addNext_22 : decode cX0_addNext 22 = .ok (.invokevirtual 57, 3) := by decide +kernel
theorem dX0_addNext_25 : decode cX0_addNext 25 = .ok (.istore 5, 2) := by decide +kernel
theorem dX0_addNext_27 : decode cX0_addNext 27 = .ok (.iload 5, 2) := by decide +kernel
theorem dX0_addNext_29 : decode cX0_addNext 29 = .ok (.iload_n 3, 1) := by decide +kernel
theorem dX0_addNext_30 : decode cX0_addNext 30 = .ok (.if_icmp .ge 9, 3) := by decide +kernel
theorem dX0_addNext_33 : decode cX0_addNext 33 = .ok (.iload 4, 2) := by decide +kernel
theorem dX0_addNext_35 : decode cX0_addNext 35 = .ok (.istore_n 2, 1) := by decide +kernel
theorem dX0_addNext_36 : decode cX0_addNext 36 = .ok (.iload 5, 2) := by decide +kernel
theorem dX0_addNext_38 : decode cX0_addNext 38 = .ok (.istore_n 3, 1) := by decide +kernel
theorem dX0_addNext_39 : decode cX0_addNext 39 = .ok (.iinc 4 1, 3) := by decide +kernel
theorem dX0_addNext_42 : decode cX0_addNext 42 = .ok (.goto (-33), 3) := by decide +kernel
theorem dX0_addNext_45 : decode cX0_addNext 45 = .ok (.iload_n 2, 1) := by decide +kernel
theorem dX0_addNext_46 : decode cX0_addNext 46 = .ok (.ifCond .lt 13, 3) := by decide +kernel
theorem dX0_addNext_49 : decode cX0_addNext 49 = .ok (.aload_n 0, 1) := by decide +kernel
theorem dX0_addNext_50 : decode cX0_addNext 50 = .ok (.getfield 9, 3) := by decide +kernel
theorem dX0_addNext_53 : decode cX0_addNext 53 = .ok (.sipush 500, 3) := by decide +kernel
theorem dX0_addNext_56 : decode cX0_addNext 56 = .ok (.if_icmp .lt 4, 3) := by decide +kernel
theorem dX0_addNext_59 : decode cX0_addNext 59 = .ok (.return_, 1) := by decide +kernel
theorem dX0_addNext_60 : decode cX0_addNext 60 = .ok (.aload_n 0, 1) := by decide +kernel
theorem dX0_addNext_61 : decode cX0_addNext 61 = .ok (.getfield 15, 3) := by decide +kernel
theorem dX0_addNext_64 : decode cX0_addNext 64 = .ok (.aload_n 0, 1) := by decide +kernel
theorem dX0_addNext_65 : decode cX0_addNext 65 = .ok (.getfield 9, 3) := by decide +kernel
theorem dX0_addNext_68 : decode cX0_addNext 68 = .ok (.iload_n 2, 1) := by decide +kernel
theorem dX0_addNext_69 : decode cX0_addNext 69 = .ok (.iastore, 1) := by decide +kernel
theorem dX0_addNext_70 : decode cX0_addNext 70 = .ok (.aload_n 0, 1) := by decide +kernel
theorem dX0_addNext_71 : decode cX0_addNext 71 = .ok (.getfield 19, 3) := by decide +kernel
theorem dX0_addNext_74 : decode cX0_addNext 74 = .ok (.aload_n 0, 1) := by decide +kernel
theorem dX0_addNext_75 : decode cX0_addNext 75 = .ok (.getfield 9, 3) := by decide +kernel
theorem dX0_addNext_78 : decode cX0_addNext 78 = .ok (.iload_n 3, 1) := by decide +kernel
theorem dX0_addNext_79 : decode cX0_addNext 79 = .ok (.iastore, 1) := by decide +kernel
theorem dX0_addNext_80 : decode cX0_addNext 80 = .ok (.aload_n 0, 1) := by decide +kernel
theorem dX0_addNext_81 : decode cX0_addNext 81 = .ok (.getfield 22, 3) := by decide +kernel
theorem dX0_addNext_84 : decode cX0_addNext 84 = .ok (.aload_n 0, 1) := by decide +kernel
theorem dX0_addNext_85 : decode cX0_addNext 85 = .ok (.getfield 9, 3) := by decide +kernel
theorem dX0_addNext_88 : decode cX0_addNext 88 = .ok (.aload_n 1, 1) := by decide +kernel
theorem dX0_addNext_89 : decode cX0_addNext 89 = .ok (.iload_n 2, 1) := by decide +kernel
theorem dX0_addNext_90 : decode cX0_addNext 90 = .ok (.aload_n 0, 1) := by decide +kernel
theorem dX0_addNext_91 : decode cX0_addNext 91 = .ok (.getfield 32, 3) := by decide +kernel
theorem dX0_addNext_94 : decode cX0_addNext 94 = .ok (.iload_n 2, 1) := by decide +kernel
theorem dX0_addNext_95 : decode cX0_addNext 95 = .ok (.iaload, 1) := by decide +kernel
theorem dX0_addNext_96 : decode cX0_addNext 96 = .ok (.invokevirtual 61, 3) := by decide +kernel
theorem dX0_addNext_99 : decode cX0_addNext 99 = .ok (.iastore, 1) := by decide +kernel
theorem dX0_addNext_100 : decode cX0_addNext 100 = .ok (.aload_n 0, 1) := by decide +kernel
theorem dX0_addNext_101 : decode cX0_addNext 101 = .ok (.getfield 25, 3) := by decide +kernel
theorem dX0_addNext_104 : decode cX0_addNext 104 = .ok (.aload_n 0, 1) := by decide +kernel
theorem dX0_addNext_105 : decode cX0_addNext 105 = .ok (.getfield 9, 3) := by decide +kernel
theorem dX0_addNext_108 : decode cX0_addNext 108 = .ok (.iconst (-1), 1) := by decide +kernel
theorem dX0_addNext_109 : decode cX0_addNext 109 = .ok (.iastore, 1) := by decide +kernel
theorem dX0_addNext_110 : decode cX0_addNext 110 = .ok (.aload_n 0, 1) := by decide +kernel
theorem dX0_addNext_111 : decode cX0_addNext 111 = .ok (.getfield 28, 3) := by decide +kernel
theorem dX0_addNext_114 : decode cX0_addNext 114 = .ok (.aload_n 0, 1) := by decide +kernel
theorem dX0_addNext_115 : decode cX0_addNext 115 = .ok (.getfield 9, 3) := by decide +kernel
theorem dX0_addNext_118 : decode cX0_addNext 118 = .ok (.iconst 0, 1) := by decide +kernel
theorem dX0_addNext_119 : decode cX0_addNext 119 = .ok (.bastore, 1) := by decide +kernel
theorem dX0_addNext_120 : decode cX0_addNext 120 = .ok (.aload_n 0, 1) := by decide +kernel
theorem dX0_addNext_121 : decode cX0_addNext 121 = .ok (.getfield 35, 3) := by decide +kernel
theorem dX0_addNext_124 : decode cX0_addNext 124 = .ok (.iload_n 2, 1) := by decide +kernel
theorem dX0_addNext_125 : decode cX0_addNext 125 = .ok (.dup2, 1) := by decide +kernel
theorem dX0_addNext_126 : decode cX0_addNext 126 = .ok (.iaload, 1) := by decide +kernel
theorem dX0_addNext_127 : decode cX0_addNext 127 = .ok (.iconst 1, 1) := by decide +kernel
theorem dX0_addNext_128 : decode cX0_addNext 128 = .ok (.iadd, 1) := by decide +kernel
theorem dX0_addNext_129 : decode cX0_addNext 129 = .ok (.iastore, 1) := by decide +kernel
theorem dX0_addNext_130 : decode cX0_addNext 130 = .ok (.aload_n 0, 1) := by decide +kernel
theorem dX0_addNext_131 : decode cX0_addNext 131 = .ok (.dup, 1) := by decide +kernel
theorem dX0_addNext_132 : decode cX0_addNext 132 = .ok (.getfield 9, 3) := by decide +kernel
theorem dX0_addNext_135 : decode cX0_addNext 135 = .ok (.iconst 1, 1) := by decide +kernel
theorem dX0_addNext_136 : decode cX0_addNext 136 = .ok (.iadd, 1) := by decide +kernel
theorem dX0_addNext_137 : decode cX0_addNext 137 = .ok (.putfield 9, 3) := by decide +kernel
theorem dX0_addNext_140 : decode cX0_addNext 140 = .ok (.return_, 1) := by decide +kernel
theorem dX0_nextSecond_0 : decode cX0_nextSecond 0 = .ok (.iconst 0, 1) := by decide +kernel
theorem dX0_nextSecond_1 : decode cX0_nextSecond 1 = .ok (.istore_n 3, 1) := by decide +kernel
theorem dX0_nextSecond_2 : decode cX0_nextSecond 2 = .ok (.iload_n 3, 1) := by decide +kernel
theorem dX0_nextSecond_3 : decode cX0_nextSecond 3 = .ok (.iconst 4, 1) := by decide +kernel
theorem dX0_nextSecond_4 : decode cX0_nextSecond 4 = .ok (.if_icmp .gt 94, 3) := by decide +kernel
theorem dX0_nextSecond_7 : decode cX0_nextSecond 7 = .ok (.aload_n 0, 1) := by decide +kernel
theorem dX0_nextSecond_8 : decode cX0_nextSecond 8 = .ok (.getfield 32, 3) := by decide +kernel
theorem dX0_nextSecond_11 : decode cX0_nextSecond 11 = .ok (.iload_n 2, 1) := by decide +kernel
theorem dX0_nextSecond_12 : decode cX0_nextSecond 12 = .ok (.iaload, 1) := by decide +kernel
theorem dX0_nextSecond_13 : decode cX0_nextSecond 13 = .ok (.iconst 4, 1) := by decide +kernel
theorem dX0_nextSecond_14 : decode cX0_nextSecond 14 = .ok (.if_icmp .ge 84, 3) := by decide +kernel
theorem dX0_nextSecond_17 : decode cX0_nextSecond 17 = .ok (.aload_n 1, 1) := by decide +kernel
theorem dX0_nextSecond_18 : decode cX0_nextSecond 18 = .ok (.getfield 64, 3) := by decide +kernel
theorem dX0_nextSecond_21 : decode cX0_nextSecond 21 = .ok (.iload_n 2, 1) := by decide +kernel
theorem dX0_nextSecond_22 : decode cX0_nextSecond 22 = .ok (.iconst 4, 1) := by decide +kernel
theorem dX0_nextSecond_23 : decode cX0_nextSecond 23 = .ok (.imul, 1) := by decide +kernel
theorem dX0_nextSecond_24 : decode cX0_nextSecond 24 = .ok (.aload_n 0, 1) := by decide +kernel
theorem dX0_nextSecond_25 : decode cX0_nextSecond 25 = .ok (.getfield 32, 3) := by decide +kernel
theorem dX0_nextSecond_28 : decode cX0_nextSecond 28 = .ok (.iload_n 2, 1) := by decide +kernel
theorem dX0_nextSecond_29 : decode cX0_nextSecond 29 = .ok (.iaload, 1) := by decide +kernel
theorem dX0_nextSecond_30 : decode cX0_nextSecond 30 = .ok (.iadd, 1) := by decide +kernel
theorem dX0_nextSecond_31 : decode cX0_nextSecond 31 = .ok (.iaload, 1) := by decide +kernel
theorem dX0_nextSecond_32 : decode cX0_nextSecond 32 = .ok (.istore 4, 2) := by decide +kernel
theorem dX0_nextSecond_34 : decode cX0_nextSecond 34 = .ok (.iload 4, 2) := by decide +kernel
theorem dX0_nextSecond_36 : decode cX0_nextSecond 36 = .ok (.ifCond .le 39, 3) := by decide +kernel
theorem dX0_nextSecond_39 : decode cX0_nextSecond 39 = .ok (.aload_n 0, 1) := by decide +kernel
theorem dX0_nextSecond_40 : decode cX0_nextSecond 40 = .ok (.getfield 35, 3) := by decide +kernel
theorem dX0_nextSecond_43 : decode cX0_nextSecond 43 = .ok (.iload_n 2, 1) := by decide +kernel
theorem dX0_nextSecond_44 : decode cX0_nextSecond 44 = .ok (.iaload, 1) := by decide +kernel
theorem dX0_nextSecond_45 : decode cX0_nextSecond 45 = .ok (.iload 4, 2) := by decide +kernel
theorem dX0_nextSecond_47 : decode cX0_nextSecond 47 = .ok (.if_icmp .ge 28, 3) := by decide +kernel
theorem dX0_nextSecond_50 : decode cX0_nextSecond 50 = .ok (.aload_n 0, 1) := by decide +kernel
theorem dX0_nextSecond_51 : decode cX0_nextSecond 51 = .ok (.getfield 32, 3) := by decide +kernel
theorem dX0_nextSecond_54 : decode cX0_nextSecond 54 = .ok (.iload_n 2, 1) := by decide +kernel
theorem dX0_nextSecond_55 : decode cX0_nextSecond 55 = .ok (.iaload, 1) := by decide +kernel
theorem dX0_nextSecond_56 : decode cX0_nextSecond 56 = .ok (.sipush 900, 3) := by decide +kernel
theorem dX0_nextSecond_59 : decode cX0_nextSecond 59 = .ok (.imul, 1) := by decide +kernel
theorem dX0_nextSecond_60 : decode cX0_nextSecond 60 = .ok (.aload_n 0, 1) := by decide +kernel
theorem dX0_nextSecond_61 : decode cX0_nextSecond 61 = .ok (.getfield 35, 3) := by decide +kernel
theorem dX0_nextSecond_64 : decode cX0_nextSecond 64 = .ok (.iload_n 2, 1) := by decide +kernel
theorem dX0_nextSecond_65 : decode cX0_nextSecond 65 = .ok (.iaload, 1) := by decide +kernel
theorem dX0_nextSecond_66 : decode cX0_nextSecond 66 = .ok (.sipush 900, 3) := by decide +kernel
theorem dX0_nextSecond_69 : decode cX0_nextSecond 69 = .ok (.imul, 1) := by decide +kernel
theorem dX0_nextSecond_70 : decode cX0_nextSecond 70 = .ok (.iload 4, 2) := by decide +kernel
theorem dX0_nextSecond_72 : decode cX0_nextSecond 72 = .ok (.idiv, 1) := by decide +kernel
theorem dX0_nextSecond_73 : decode cX0_nextSecond 73 = .ok (.iadd, 1) := by decide +kernel
theorem dX0_nextSecond_74 : decode cX0_nextSecond 74 = .ok (.ireturn, 1) := by decide +kernel
theorem dX0_nextSecond_75 : decode cX0_nextSecond 75 = .ok (.aload_n 0, 1) := by decide +kernel
theorem dX0_nextSecond_76 : decode cX0_nextSecond 76 = .ok (.getfield 32, 3) := by decide +kernel
theorem dX0_nextSecond_79 : decode cX0_nextSecond 79 = .ok (.iload_n 2, 1) := by decide +kernel
theorem dX0_nextSecond_80 : decode cX0_nextSecond 80 = .ok (.dup2, 1) := by decide +kernel
theorem dX0_nextSecond_81 : decode cX0_nextSecond 81 = .ok (.iaload, 1) := by decide +kernel
theorem dX0_nextSecond_82 : decode cX0_nextSecond 82 = .ok (.iconst 1, 1) := by decide +kernel
theorem dX0_nextSecond_83 : decode cX0_nextSecond 83 = .ok (.iadd, 1) := by decide +kernel
theorem dX0_nextSecond_84 : decode cX0_nextSecond 84 = .ok (.iastore, 1) := by decide +kernel
theorem dX0_nextSecond_85 : decode cX0_nextSecond 85 = .ok (.aload_n 0, 1) := by decide +kernel
theorem dX0_nextSecond_86 : decode cX0_nextSecond 86 = .ok (.getfield 35, 3) := by decide +kernel
theorem dX0_nextSecond_89 : decode cX0_nextSecond 89 = .ok (.iload_n 2, 1) := by decide +kernel
theorem dX0_nextSecond_90 : decode cX0_nextSecond 90 = .ok (.iconst 0, 1) := by decide +kernel
theorem dX0_nextSecond_91 : decode cX0_nextSecond 91 = .ok (.iastore, 1) := by decide +kernel
theorem dX0_nextSecond_92 : decode cX0_nextSecond 92 = .ok (.iinc 3 1, 3) := by decide +kernel
theorem dX0_nextSecond_95 : decode cX0_nextSecond 95 = .ok (.goto (-93), 3) := by decide +kernel
theorem dX0_nextSecond_98 : decode cX0_nextSecond 98 = .ok (.sipush 3600, 3) := by decide +kernel
theorem dX0_nextSecond_101 : decode cX0_nextSecond 101 = .ok (.ireturn, 1) := by decide +kernel
theorem dX1_run_0 : decode cX1_run 0 = .ok (.aload_n 0, 1) := by decide +kernel
theorem dX1_run_1 : decode cX1_run 1 = .ok (.aload_n 1, 1) := by decide +kernel
theorem dX1_run_2 : decode cX1_run 2 = .ok (.invokevirtual 46, 3) := by decide +kernel
theorem dX1_run_5 : decode cX1_run 5 = .ok (.aload_n 0, 1) := by decide +kernel
theorem dX1_run_6 : decode cX1_run 6 = .ok (.getfield 31, 3) := by decide +kernel
theorem dX1_run_9 : decode cX1_run 9 = .ok (.aload_n 1, 1) := by decide +kernel
theorem dX1_run_10 : decode cX1_run 10 = .ok (.invokevirtual 50, 3) := by decide +kernel
theorem dX1_run_13 : decode cX1_run 13 = .ok (.iconst 0, 1) := by decide +kernel
theorem dX1_run_14 : decode cX1_run 14 = .ok (.istore_n 2, 1) := by decide +kernel
theorem dX1_run_15 : decode cX1_run 15 = .ok (.iconst 0, 1) := by decide +kernel
theorem dX1_run_16 : decode cX1_run 16 = .ok (.istore_n 3, 1) := by decide +kernel
theorem dX1_run_17 : decode cX1_run 17 = .ok (.iload_n 3, 1) := by decide +kernel
theorem dX1_run_18 : decode cX1_run 18 = .ok (.sipush 7200, 3) := by decide +kernel
theorem dX1_run_21 : decode cX1_run 21 = .ok (.if_icmp .ge 125, 3) := by decide +kernel
theorem dX1_run_24 : decode cX1_run 24 = .ok (.iload_n 2, 1) := by decide +kernel
theorem dX1_run_25 : decode cX1_run 25 = .ok (.sipush 7200, 3) := by decide +kernel
theorem dX1_run_28 : decode cX1_run 28 = .ok (.if_icmp .ge 118, 3) := by decide +kernel
theorem dX1_run_31 : decode cX1_run 31 = .ok (.aload_n 0, 1) := by decide +kernel
theorem dX1_run_32 : decode cX1_run 32 = .ok (.iload_n 2, 1) := by decide +kernel
theorem dX1_run_33 : decode cX1_run 33 = .ok (.invokevirtual 53, 3) := by decide +kernel
theorem dX1_run_36 : decode cX1_run 36 = .ok (.aload_n 0, 1) := by decide +kernel
theorem dX1_run_37 : decode cX1_run 37 = .ok (.getfield 57, 3) := by decide +kernel
theorem dX1_run_40 : decode cX1_run 40 = .ok (.istore 4, 2) := by decide +kernel
theorem dX1_run_42 : decode cX1_run 42 = .ok (.iload 4, 2) := by decide +kernel
theorem dX1_run_44 : decode cX1_run 44 = .ok (.aload_n 0, 1) := by decide +kernel
theorem dX1_run_45 : decode cX1_run 45 = .ok (.getfield 31, 3) := by decide +kernel
theorem dX1_run_48 : decode cX1_run 48 = .ok (.getfield 60, 3) := by decide +kernel
theorem dX1_run_51 : decode cX1_run 51 = .ok (.if_icmp .ge 38, 3) := by decide +kernel
theorem dX1_run_54 : decode cX1_run 54 = .ok (.aload_n 0, 1) := by decide +kernel
theorem dX1_run_55 : decode cX1_run 55 = .ok (.getfield 31, 3) := by decide +kernel
theorem dX1_run_58 : decode cX1_run 58 = .ok (.getfield 63, 3) := by decide +kernel
theorem dX1_run_61 : decode cX1_run 61 = .ok (.iload 4, 2) := by decide +kernel
theorem dX1_run_63 : decode cX1_run 63 = .ok (.iaload, 1) := by decide +kernel
theorem dX1_run_64 : decode cX1_run 64 = .ok (.iload_n 2, 1) := by decide +kernel
theorem dX1_run_65 : decode cX1_run 65 = .ok (.if_icmp .gt 24, 3) := by decide +kernel
theorem dX1_run_68 : decode cX1_run 68 = .ok (.aload_n 0, 1) := by decide +kernel
theorem dX1_run_69 : decode cX1_run 69 = .ok (.iload 4, 2) := by decide +kernel
theorem dX1_run_71 : decode cX1_run 71 = .ok (.iload_n 2, 1) := by decide +kernel
theorem dX1_run_72 : decode cX1_run 72 = .ok (.invokevirtual 66, 3) := by decide +kernel
theorem dX1_run_75 : decode cX1_run 75 = .ok (.aload_n 0, 1) := by decide +kernel
theorem dX1_run_76 : decode cX1_run 76 = .ok (.iload 4, 2) := by decide +kernel
theorem dX1_run_78 : decode cX1_run 78 = .ok (.iconst 1, 1) := by decide +kernel
theorem dX1_run_79 : decode cX1_run 79 = .ok (.iadd, 1) := by decide +kernel
theorem dX1_run_80 : decode cX1_run 80 = .ok (.putfield 57, 3) := by decide +kernel
theorem dX1_run_83 : decode cX1_run 83 = .ok (.iinc 4 1, 3) := by decide +kernel
theorem dX1_run_86 : decode cX1_run 86 = .ok (.goto (-44), 3) := by decide +kernel
theorem dX1_run_89 : decode cX1_run 89 = .ok (.iconst 0, 1) := by decide +kernel
theorem dX1_run_90 : decode cX1_run 90 = .ok (.istore 4, 2) := by decide +kernel
theorem dX1_run_92 : decode cX1_run 92 = .ok (.iload 4, 2) := by decide +kernel
theorem dX1_run_94 : decode cX1_run 94 = .ok (.aload_n 0, 1) := by decide +kernel
theorem dX1_run_95 : decode cX1_run 95 = .ok (.getfield 38, 3) := by decide +kernel
theorem dX1_run_98 : decode cX1_run 98 = .ok (.getfield 70, 3) := by decide +kernel
theorem dX1_run_101 : decode cX1_run 101 = .ok (.if_icmp .ge 33, 3) := by decide +kernel
theorem dX1_run_104 : decode cX1_run 104 = .ok (.aload_n 0, 1) := by decide +kernel
theorem dX1_run_105 : decode cX1_run 105 = .ok (.aload_n 0, 1) := by decide +kernel
theorem dX1_run_106 : decode cX1_run 106 = .ok (.getfield 23, 3) := by decide +kernel
theorem dX1_run_109 : decode cX1_run 109 = .ok (.iload 4, 2) := by decide +kernel
theorem dX1_run_111 : decode cX1_run 111 = .ok (.aaload, 1) := by decide +kernel
theorem dX1_run_112 : decode cX1_run 112 = .ok (.iload_n 2, 1) := by decide +kernel
theorem dX1_run_113 : decode cX1_run 113 = .ok (.invokevirtual 73, 3) := by decide +kernel
theorem dX1_run_116 : decode cX1_run 116 = .ok (.aload_n 0, 1) := by decide +kernel
theorem dX1_run_117 : decode cX1_run 117 = .ok (.aload_n 0, 1) := by decide +kernel
theorem dX1_run_118 : decode cX1_run 118 = .ok (.getfield 23, 3) := by decide +kernel
theorem dX1_run_121 : decode cX1_run 121 = .ok (.iload 4, 2) := by decide +kernel
theorem dX1_run_123 : decode cX1_run 123 = .ok (.aaload, 1) := by decide +kernel
theorem dX1_run_124 : decode cX1_run 124 = .ok (.iload_n 2, 1) := by decide +kernel
theorem dX1_run_125 : decode cX1_run 125 = .ok (.invokevirtual 77, 3) := by decide +kernel
theorem dX1_run_128 : decode cX1_run 128 = .ok (.iinc 4 1, 3) := by decide +kernel
theorem dX1_run_131 : decode cX1_run 131 = .ok (.goto (-39), 3) := by decide +kernel
theorem dX1_run_134 : decode cX1_run 134 = .ok (.aload_n 0, 1) := by decide +kernel
theorem dX1_run_135 : decode cX1_run 135 = .ok (.iload_n 2, 1) := by decide +kernel
theorem dX1_run_136 : decode cX1_run 136 = .ok (.invokevirtual 80, 3) := by decide +kernel
theorem dX1_run_139 : decode cX1_run 139 = .ok (.istore_n 2, 1) := by decide +kernel
theorem dX1_run_140 : decode cX1_run 140 = .ok (.iinc 3 1, 3) := by decide +kernel
theorem dX1_run_143 : decode cX1_run 143 = .ok (.goto (-126), 3) := by decide +kernel
theorem dX1_run_146 : decode cX1_run 146 = .ok (.iconst 0, 1) := by decide +kernel
theorem dX1_run_147 : decode cX1_run 147 = .ok (.istore_n 3, 1) := by decide +kernel
theorem dX1_run_148 : decode cX1_run 148 = .ok (.iload_n 3, 1) := by decide +kernel
theorem dX1_run_149 : decode cX1_run 149 = .ok (.aload_n 0, 1) := by decide +kernel
theorem dX1_run_150 : decode cX1_run 150 = .ok (.getfield 38, 3) := by decide +kernel
theorem dX1_run_153 : decode cX1_run 153 = .ok (.getfield 70, 3) := by decide +kernel
theorem dX1_run_156 : decode cX1_run 156 = .ok (.if_icmp .ge 19, 3) := by decide +kernel
theorem dX1_run_159 : decode cX1_run 159 = .ok (.aload_n 0, 1) := by decide +kernel
theorem dX1_run_160 : decode cX1_run 160 = .ok (.aload_n 0, 1) := by decide +kernel
theorem dX1_run_161 : decode cX1_run 161 = .ok (.getfield 23, 3) := by decide +kernel
theorem dX1_run_164 : decode cX1_run 164 = .ok (.iload_n 3, 1) := by decide +kernel
theorem dX1_run_165 : decode cX1_run 165 = .ok (.aaload, 1) := by decide +kernel
theorem dX1_run_166 : decode cX1_run 166 = .ok (.invokevirtual 84, 3) := by decide +kernel
theorem dX1_run_169 : decode cX1_run 169 = .ok (.iinc 3 1, 3) := by decide +kernel
theorem dX1_run_172 : decode cX1_run 172 = .ok (.goto (-24), 3) := by decide +kernel
theorem dX1_run_175 : decode cX1_run 175 = .ok (.return_, 1) := by decide +kernel
theorem dX1_allCost_0 : decode cX1_allCost 0 = .ok (.iconst 0, 1) := by decide +kernel
theorem dX1_allCost_1 : decode cX1_allCost 1 = .ok (.istore_n 1, 1) := by decide +kernel
theorem dX1_allCost_2 : decode cX1_allCost 2 = .ok (.iconst 0, 1) := by decide +kernel
theorem dX1_allCost_3 : decode cX1_allCost 3 = .ok (.istore_n 2, 1) := by decide +kernel
theorem dX1_allCost_4 : decode cX1_allCost 4 = .ok (.iload_n 2, 1) := by decide +kernel
theorem dX1_allCost_5 : decode cX1_allCost 5 = .ok (.aload_n 0, 1) := by decide +kernel
theorem dX1_allCost_6 : decode cX1_allCost 6 = .ok (.getfield 38, 3) := by decide +kernel
theorem dX1_allCost_9 : decode cX1_allCost 9 = .ok (.getfield 88, 3) := by decide +kernel
theorem dX1_allCost_12 : decode cX1_allCost 12 = .ok (.if_icmp .ge 39, 3) := by decide +kernel
theorem dX1_allCost_15 : decode cX1_allCost 15 = .ok (.iload_n 1, 1) := by decide +kernel
theorem dX1_allCost_16 : decode cX1_allCost 16 = .ok (.aload_n 0, 1) := by decide +kernel
theorem dX1_allCost_17 : decode cX1_allCost 17 = .ok (.getfield 9, 3) := by decide +kernel
theorem dX1_allCost_20 : decode cX1_allCost 20 = .ok (.iload_n 2, 1) := by decide +kernel
theorem dX1_allCost_21 : decode cX1_allCost 21 = .ok (.iaload, 1) := by decide +kernel
theorem dX1_allCost_22 : decode cX1_allCost 22 = .ok (.aload_n 0, 1) := by decide +kernel
theorem dX1_allCost_23 : decode cX1_allCost 23 = .ok (.getfield 38, 3) := by decide +kernel
theorem dX1_allCost_26 : decode cX1_allCost 26 = .ok (.getfield 91, 3) := by decide +kernel
theorem dX1_allCost_29 : decode cX1_allCost 29 = .ok (.iload_n 2, 1) := by decide +kernel
theorem dX1_allCost_30 : decode cX1_allCost 30 = .ok (.iaload, 1) := by decide +kernel
theorem dX1_allCost_31 : decode cX1_allCost 31 = .ok (.imul, 1) := by decide +kernel
theorem dX1_allCost_32 : decode cX1_allCost 32 = .ok (.sipush 1000, 3) := by decide +kernel
theorem dX1_allCost_35 : decode cX1_allCost 35 = .ok (.aload_n 0, 1) := by decide +kernel
theorem dX1_allCost_36 : decode cX1_allCost 36 = .ok (.getfield 18, 3) := by decide +kernel
theorem dX1_allCost_39 : decode cX1_allCost 39 = .ok (.iload_n 2, 1) := by decide +kernel
theorem dX1_allCost_40 : decode cX1_allCost 40 = .ok (.iaload, 1) := by decide +kernel
theorem dX1_allCost_41 : decode cX1_allCost 41 = .ok (.imul, 1) := by decide +kernel
theorem dX1_allCost_42 : decode cX1_allCost 42 = .ok (.iadd, 1) := by decide +kernel
theorem dX1_allCost_43 : decode cX1_allCost 43 = .ok (.iadd, 1) := by decide +kernel
theorem dX1_allCost_44 : decode cX1_allCost 44 = .ok (.istore_n 1, 1) := by decide +kernel
theorem dX1_allCost_45 : decode cX1_allCost 45 = .ok (.iinc 2 1, 3) := by decide +kernel
theorem dX1_allCost_48 : decode cX1_allCost 48 = .ok (.goto (-44), 3) := by decide +kernel
theorem dX1_allCost_51 : decode cX1_allCost 51 = .ok (.iload_n 1, 1) := by decide +kernel
theorem dX1_allCost_52 : decode cX1_allCost 52 = .ok (.ireturn, 1) := by decide +kernel
theorem dX1_allLeft_0 : decode cX1_allLeft 0 = .ok (.iconst 0, 1) := by decide +kernel
theorem dX1_allLeft_1 : decode cX1_allLeft 1 = .ok (.istore_n 1, 1) := by decide +kernel
theorem dX1_allLeft_2 : decode cX1_allLeft 2 = .ok (.iconst 0, 1) := by decide +kernel
theorem dX1_allLeft_3 : decode cX1_allLeft 3 = .ok (.istore_n 2, 1) := by decide +kernel
theorem dX1_allLeft_4 : decode cX1_allLeft 4 = .ok (.iload_n 2, 1) := by decide +kernel
theorem dX1_allLeft_5 : decode cX1_allLeft 5 = .ok (.aload_n 0, 1) := by decide +kernel
theorem dX1_allLeft_6 : decode cX1_allLeft 6 = .ok (.getfield 38, 3) := by decide +kernel
theorem dX1_allLeft_9 : decode cX1_allLeft 9 = .ok (.getfield 88, 3) := by decide +kernel
theorem dX1_allLeft_12 : decode cX1_allLeft 12 = .ok (.if_icmp .ge 18, 3) := by decide +kernel
theorem dX1_allLeft_15 : decode cX1_allLeft 15 = .ok (.iload_n 1, 1) := by decide +kernel
theorem dX1_allLeft_16 : decode cX1_allLeft 16 = .ok (.aload_n 0, 1) := by decide +kernel
theorem dX1_allLeft_17 : decode cX1_allLeft 17 = .ok (.getfield 15, 3) := by decide +kernel
theorem dX1_allLeft_20 : decode cX1_allLeft 20 = .ok (.iload_n 2, 1) := by decide +kernel
theorem dX1_allLeft_21 : decode cX1_allLeft 21 = .ok (.iaload, 1) := by decide +kernel
theorem dX1_allLeft_22 : decode cX1_allLeft 22 = .ok (.iadd, 1) := by decide +kernel
theorem dX1_allLeft_23 : decode cX1_allLeft 23 = .ok (.istore_n 1, 1) := by decide +kernel
theorem dX1_allLeft_24 : decode cX1_allLeft 24 = .ok (.iinc 2 1, 3) := by decide +kernel
theorem dX1_allLeft_27 : decode cX1_allLeft 27 = .ok (.goto (-23), 3) := by decide +kernel
theorem dX1_allLeft_30 : decode cX1_allLeft 30 = .ok (.iload_n 1, 1) := by decide +kernel
theorem dX1_allLeft_31 : decode cX1_allLeft 31 = .ok (.ireturn, 1) := by decide +kernel
theorem dX1_keptOf_0 : decode cX1_keptOf 0 = .ok (.iconst 0, 1) := by decide +kernel
theorem dX1_keptOf_1 : decode cX1_keptOf 1 = .ok (.istore_n 2, 1) := by decide +kernel
theorem dX1_keptOf_2 : decode cX1_keptOf 2 = .ok (.iconst 0, 1) := by decide +kernel
theorem dX1_keptOf_3 : decode cX1_keptOf 3 = .ok (.istore_n 3, 1) := by decide +kernel
theorem dX1_keptOf_4 : decode cX1_keptOf 4 = .ok (.iload_n 3, 1) := by decide +kernel
theorem dX1_keptOf_5 : decode cX1_keptOf 5 = .ok (.iconst 4, 1) := by decide +kernel
theorem dX1_keptOf_6 : decode cX1_keptOf 6 = .ok (.if_icmp .ge 21, 3) := by decide +kernel
theorem dX1_keptOf_9 : decode cX1_keptOf 9 = .ok (.iload_n 2, 1) := by decide +kernel
theorem dX1_keptOf_10 : decode cX1_keptOf 10 = .ok (.aload_n 0, 1) := by decide +kernel
theorem dX1_keptOf_11 : decode cX1_keptOf 11 = .ok (.getfield 38, 3) := by decide +kernel
theorem dX1_keptOf_14 : decode cX1_keptOf 14 = .ok (.iload_n 1, 1) := by decide +kernel
theorem dX1_keptOf_15 : decode cX1_keptOf 15 = .ok (.iload_n 3, 1) := by decide +kernel
theorem dX1_keptOf_16 : decode cX1_keptOf 16 = .ok (.invokevirtual 94, 3) := by decide +kernel
theorem dX1_keptOf_19 : decode cX1_keptOf 19 = .ok (.iadd, 1) := by decide +kernel
theorem dX1_keptOf_20 : decode cX1_keptOf 20 = .ok (.istore_n 2, 1) := by decide +kernel
theorem dX1_keptOf_21 : decode cX1_keptOf 21 = .ok (.iinc 3 1, 3) := by decide +kernel
theorem dX1_keptOf_24 : decode cX1_keptOf 24 = .ok (.goto (-20), 3) := by decide +kernel
theorem dX1_keptOf_27 : decode cX1_keptOf 27 = .ok (.iload_n 2, 1) := by decide +kernel
theorem dX1_keptOf_28 : decode cX1_keptOf 28 = .ok (.aload_n 0, 1) := by decide +kernel
theorem dX1_keptOf_29 : decode cX1_keptOf 29 = .ok (.getfield 18, 3) := by decide +kernel
theorem dX1_keptOf_32 : decode cX1_keptOf 32 = .ok (.iload_n 1, 1) := by decide +kernel
theorem dX1_keptOf_33 : decode cX1_keptOf 33 = .ok (.iaload, 1) := by decide +kernel
theorem dX1_keptOf_34 : decode cX1_keptOf 34 = .ok (.isub, 1) := by decide +kernel
theorem dX1_keptOf_35 : decode cX1_keptOf 35 = .ok (.ireturn, 1) := by decide +kernel
theorem dX1_meanOf_0 : decode cX1_meanOf 0 = .ok (.aload_n 0, 1) := by decide +kernel
theorem dX1_meanOf_1 : decode cX1_meanOf 1 = .ok (.iload_n 1, 1) := by decide +kernel
theorem dX1_meanOf_2 : decode cX1_meanOf 2 = .ok (.invokevirtual 98, 3) := by decide +kernel
theorem dX1_meanOf_5 : decode cX1_meanOf 5 = .ok (.istore_n 2, 1) := by decide +kernel
theorem dX1_meanOf_6 : decode cX1_meanOf 6 = .ok (.iload_n 2, 1) := by decide +kernel
theorem dX1_meanOf_7 : decode cX1_meanOf 7 = .ok (.iconst 1, 1) := by decide +kernel
theorem dX1_meanOf_8 : decode cX1_meanOf 8 = .ok (.if_icmp .ge 7, 3) := by decide +kernel
theorem dX1_meanOf_11 : decode cX1_meanOf 11 = .ok (.iconst 0, 1) := by decide +kernel
theorem dX1_meanOf_12 : decode cX1_meanOf 12 = .ok (.goto 11, 3) := by decide +kernel
theorem dX1_meanOf_15 : decode cX1_meanOf 15 = .ok (.aload_n 0, 1) := by decide +kernel
theorem dX1_meanOf_16 : decode cX1_meanOf 16 = .ok (.getfield 9, 3) := by decide +kernel
theorem dX1_meanOf_19 : decode cX1_meanOf 19 = .ok (.iload_n 1, 1) := by decide +kernel
theorem dX1_meanOf_20 : decode cX1_meanOf 20 = .ok (.iaload, 1) := by decide +kernel
theorem dX1_meanOf_21 : decode cX1_meanOf 21 = .ok (.iload_n 2, 1) := by decide +kernel
theorem dX1_meanOf_22 : decode cX1_meanOf 22 = .ok (.idiv, 1) := by decide +kernel
theorem dX1_meanOf_23 : decode cX1_meanOf 23 = .ok (.ireturn, 1) := by decide +kernel
theorem dX1_begin_0 : decode cX1_begin 0 = .ok (.aload_n 0, 1) := by decide +kernel
theorem dX1_begin_1 : decode cX1_begin 1 = .ok (.aload_n 1, 1) := by decide +kernel
theorem dX1_begin_2 : decode cX1_begin 2 = .ok (.putfield 38, 3) := by decide +kernel
theorem dX1_begin_5 : decode cX1_begin 5 = .ok (.aload_n 0, 1) := by decide +kernel
theorem dX1_begin_6 : decode cX1_begin 6 = .ok (.iconst (-1), 1) := by decide +kernel
theorem dX1_begin_7 : decode cX1_begin 7 = .ok (.putfield 101, 3) := by decide +kernel
theorem dX1_begin_10 : decode cX1_begin 10 = .ok (.aload_n 0, 1) := by decide +kernel
theorem dX1_begin_11 : decode cX1_begin 11 = .ok (.iconst 0, 1) := by decide +kernel
theorem dX1_begin_12 : decode cX1_begin 12 = .ok (.putfield 57, 3) := by decide +kernel
theorem dX1_begin_15 : decode cX1_begin 15 = .ok (.aload_n 0, 1) := by decide +kernel
theorem dX1_begin_16 : decode cX1_begin 16 = .ok (.iconst 0, 1) := by decide +kernel
theorem dX1_begin_17 : decode cX1_begin 17 = .ok (.putfield 104, 3) := by decide +kernel
theorem dX1_begin_20 : decode cX1_begin 20 = .ok (.aload_n 0, 1) := by decide +kernel
theorem dX1_begin_21 : decode cX1_begin 21 = .ok (.iconst 0, 1) := by decide +kernel
theorem dX1_begin_22 : decode cX1_begin 22 = .ok (.putfield 107, 3) := by decide +kernel
theorem dX1_begin_25 : decode cX1_begin 25 = .ok (.aload_n 0, 1) := by decide +kernel
theorem dX1_begin_26 : decode cX1_begin 26 = .ok (.iconst (-1), 1) := by decide +kernel
theorem dX1_begin_27 : decode cX1_begin 27 = .ok (.putfield 42, 3) := by decide +kernel
theorem dX1_begin_30 : decode cX1_begin 30 = .ok (.iconst 0, 1) := by decide +kernel
theorem dX1_begin_31 : decode cX1_begin 31 = .ok (.istore_n 2, 1) := by decide +kernel
theorem dX1_begin_32 : decode cX1_begin 32 = .ok (.iload_n 2, 1) := by decide +kernel
theorem dX1_begin_33 : decode cX1_begin 33 = .ok (.iconst 5, 1) := by decide +kernel
theorem dX1_begin_34 : decode cX1_begin 34 = .ok (.if_icmp .ge 30, 3) := by decide +kernel
theorem dX1_begin_37 : decode cX1_begin 37 = .ok (.aload_n 0, 1) := by decide +kernel
theorem dX1_begin_38 : decode cX1_begin 38 = .ok (.getfield 9, 3) := by decide +kernel
theorem dX1_begin_41 : decode cX1_begin 41 = .ok (.iload_n 2, 1) := by decide +kernel
theorem dX1_begin_42 : decode cX1_begin 42 = .ok (.iconst 0, 1) := by decide +kernel
theorem dX1_begin_43 : decode cX1_begin 43 = .ok (.iastore, 1) := by decide +kernel
theorem dX1_begin_44 : decode cX1_begin 44 = .ok (.aload_n 0, 1) := by decide +kernel
theorem dX1_begin_45 : decode cX1_begin 45 = .ok (.getfield 15, 3) := by decide +kernel
theorem dX1_begin_48 : decode cX1_begin 48 = .ok (.iload_n 2, 1) := by decide +kernel
theorem dX1_begin_49 : decode cX1_begin 49 = .ok (.iconst 0, 1) := by decide +kernel
theorem dX1_begin_50 : decode cX1_begin 50 = .ok (.iastore, 1) := by decide +kernel
theorem dX1_begin_51 : decode cX1_begin 51 = .ok (.aload_n 0, 1) := by decide +kernel
theorem dX1_begin_52 : decode cX1_begin 52 = .ok (.getfield 18, 3) := by decide +kernel
theorem dX1_begin_55 : decode cX1_begin 55 = .ok (.iload_n 2, 1) := by decide +kernel
theorem dX1_begin_56 : decode cX1_begin 56 = .ok (.iconst 0, 1) := by decide +kernel
theorem dX1_begin_57 : decode cX1_begin 57 = .ok (.iastore, 1) := by decide +kernel
theorem dX1_begin_58 : decode cX1_begin 58 = .ok (.iinc 2 1, 3) := by decide +kernel
theorem dX1_begin_61 : decode cX1_begin 61 = .ok (.goto (-29), 3) := by decide +kernel
theorem dX1_begin_64 : decode cX1_begin 64 = .ok (.iconst 0, 1) := by decide +kernel
theorem dX1_begin_65 : decode cX1_begin 65 = .ok (.istore_n 2, 1) := by decide +kernel
theorem dX1_begin_66 : decode cX1_begin 66 = .ok (.iload_n 2, 1) := by decide +kernel
theorem dX1_begin_67 : decode cX1_begin 67 = .ok (.bipush 6, 2) := by decide +kernel
theorem dX1_begin_69 : decode cX1_begin 69 = .ok (.if_icmp .ge 18, 3) := by decide +kernel
theorem dX1_begin_72 : decode cX1_begin 72 = .ok (.aload_n 0, 1) := by decide +kernel
theorem dX1_begin_73 : decode cX1_begin 73 = .ok (.getfield 23, 3) := by decide +kernel
theorem dX1_begin_76 : decode cX1_begin 76 = .ok (.iload_n 2, 1) := by decide +kernel
theorem dX1_begin_77 : decode cX1_begin 77 = .ok (.aaload, 1) := by decide +kernel
theorem dX1_begin_78 : decode cX1_begin 78 = .ok (.invokevirtual 110, 3) := by decide +kernel
theorem dX1_begin_81 : decode cX1_begin 81 = .ok (.iinc 2 1, 3) := by decide +kernel
theorem dX1_begin_84 : decode cX1_begin 84 = .ok (.goto (-18), 3) := by decide +kernel
theorem dX1_begin_87 : decode cX1_begin 87 = .ok (.return_, 1) := by decide +kernel
theorem dX1_enterQuarter_0 : decode cX1_enterQuarter 0 = .ok (.iload_n 1, 1) := by decide +kernel
theorem dX1_enterQuarter_1 : decode cX1_enterQuarter 1 = .ok (.sipush 900, 3) := by decide +kernel
theorem dX1_enterQuarter_4 : decode cX1_enterQuarter 4 = .ok (.idiv, 1) := by decide +kernel
theorem dX1_enterQuarter_5 : decode cX1_enterQuarter 5 = .ok (.iconst 3, 1) := by decide +kernel
theorem dX1_enterQuarter_6 : decode cX1_enterQuarter 6 = .ok (.invokestatic 113, 3) := by decide +kernel
theorem dX1_enterQuarter_9 : decode cX1_enterQuarter 9 = .ok (.istore_n 2, 1) := by decide +kernel
theorem dX1_enterQuarter_10 : decode cX1_enterQuarter 10 = .ok (.iload_n 2, 1) := by decide +kernel
theorem dX1_enterQuarter_11 : decode cX1_enterQuarter 11 = .ok (.aload_n 0, 1) := by decide +kernel
theorem dX1_enterQuarter_12 : decode cX1_enterQuarter 12 = .ok (.getfield 101, 3) := by decide +kernel
theorem dX1_enterQuarter_15 : decode cX1_enterQuarter 15 = .ok (.if_icmp .ne 4, 3) := by decide +kernel
theorem dX1_enterQuarter_18 : decode cX1_enterQuarter 18 = .ok (.return_, 1) := by decide +kernel
theorem dX1_enterQuarter_19 : decode cX1_enterQuarter 19 = .ok (.aload_n 0, 1) := by decide +kernel
theorem dX1_enterQuarter_20 : decode cX1_enterQuarter 20 = .ok (.iload_n 2, 1) := by decide +kernel
theorem dX1_enterQuarter_21 : decode cX1_enterQuarter 21 = .ok (.putfield 101, 3) := by decide +kernel
theorem dX1_enterQuarter_24 : decode cX1_enterQuarter 24 = .ok (.iconst 0, 1) := by decide +kernel
theorem dX1_enterQuarter_25 : decode cX1_enterQuarter 25 = .ok (.istore_n 3, 1) := by decide +kernel
theorem dX1_enterQuarter_26 : decode cX1_enterQuarter 26 = .ok (.iload_n 3, 1) := by decide +kernel
theorem dX1_enterQuarter_27 : decode cX1_enterQuarter 27 = .ok (.aload_n 0, 1) := by decide +kernel
theorem dX1_enterQuarter_28 : decode cX1_enterQuarter 28 = .ok (.getfield 38, 3) := by decide +kernel
theorem dX1_enterQuarter_31 : decode cX1_enterQuarter 31 = .ok (.getfield 70, 3) := by decide +kernel
theorem dX1_enterQuarter_34 : decode cX1_enterQuarter 34 = .ok (.if_icmp .ge 118, 3) := by decide +kernel
theorem dX1_enterQuarter_37 : decode cX1_enterQuarter 37 = .ok (.aload_n 0, 1) := by decide +kernel
theorem dX1_enterQuarter_38 : decode cX1_enterQuarter 38 = .ok (.getfield 38, 3) := by decide +kernel
theorem dX1_enterQuarter_41 : decode cX1_enterQuarter 41 = .ok (.iload_n 3, 1) := by decide +kernel
theorem dX1_enterQuarter_42 : decode cX1_enterQuarter 42 = .ok (.aload_n 0, 1) := by decide +kernel
theorem dX1_enterQuarter_43 : decode cX1_enterQuarter 43 = .ok (.getfield 101, 3) := by decide +kernel
theorem dX1_enterQuarter_46 : decode cX1_enterQuarter 46 = .ok (.invokevirtual 118, 3) := by decide +kernel
theorem dX1_enterQuarter_49 : decode cX1_enterQuarter 49 = .ok (.istore 4, 2) := by decide +kernel
theorem dX1_enterQuarter_51 : decode cX1_enterQuarter 51 = .ok (.aload_n 0, 1) := by decide +kernel
theorem dX1_enterQuarter_52 : decode cX1_enterQuarter 52 = .ok (.getfield 101, 3) := by decide +kernel
theorem dX1_enterQuarter_55 : decode cX1_enterQuarter 55 = .ok (.ifCond .le 26, 3) := by decide +kernel
theorem dX1_enterQuarter_58 : decode cX1_enterQuarter 58 = .ok (.aload_n 0, 1) := by decide +kernel
theorem dX1_enterQuarter_59 : decode cX1_enterQuarter 59 = .ok (.getfield 38, 3) := by decide +kernel
theorem dX1_enterQuarter_62 : decode cX1_enterQuarter 62 = .ok (.iload_n 3, 1) := by decide +kernel
theorem dX1_enterQuarter_63 : decode cX1_enterQuarter 63 = .ok (.aload_n 0, 1) := by decide +kernel
theorem dX1_enterQuarter_64 : decode cX1_enterQuarter 64 = .ok (.getfield 101, 3) := by decide +kernel
theorem dX1_enterQuarter_67 : decode cX1_enterQuarter 67 = .ok (.iconst 1, 1) := by decide +kernel
theorem dX1_enterQuarter_68 : decode cX1_enterQuarter 68 = .ok (.isub, 1) := by decide +kernel
theorem dX1_enterQuarter_69 : decode cX1_enterQuarter 69 = .ok (.invokevirtual 118, 3) := by decide +kernel
theorem dX1_enterQuarter_72 : decode cX1_enterQuarter 72 = .ok (.iload 4, 2) := by decide +kernel
theorem dX1_enterQuarter_74 : decode cX1_enterQuarter 74 = .ok (.if_icmp .eq 7, 3) := by decide +kernel
theorem dX1_enterQuarter_77 : decode cX1_enterQuarter 77 = .ok (.iconst 1, 1) := by decide +kernel
theorem dX1_enterQuarter_78 : decode cX1_enterQuarter 78 = .ok (.goto 4, 3) := by decide +kernel
theorem dX1_enterQuarter_81 : decode cX1_enterQuarter 81 = .ok (.iconst 0, 1) := by decide +kernel
theorem dX1_enterQuarter_82 : decode cX1_enterQuarter 82 = .ok (.istore 5, 2) := by decide +kernel
theorem dX1_enterQuarter_84 : decode cX1_enterQuarter 84 = .ok (.aload_n 0, 1) := by decide +kernel
theorem dX1_enterQuarter_85 : decode cX1_enterQuarter 85 = .ok (.getfield 23, 3) := by decide +kernel
theorem dX1_enterQuarter_88 : decode cX1_enterQuarter 88 = .ok (.iload_n 3, 1) := by decide +kernel
theorem dX1_enterQuarter_89 : decode cX1_enterQuarter 89 = .ok (.aaload, 1) := by decide +kernel
theorem dX1_enterQuarter_90 : decode cX1_enterQuarter 90 = .ok (.iload 4, 2) := by decide +kernel
theorem dX1_enterQuarter_92 : decode cX1_enterQuarter 92 = .ok (.putfield 121, 3) := by decide +kernel
theorem dX1_enterQuarter_95 : decode cX1_enterQuarter 95 = .ok (.aload_n 0, 1) := by decide +kernel
theorem dX1_enterQuarter_96 : decode cX1_enterQuarter 96 = .ok (.getfield 23, 3) := by decide +kernel
theorem dX1_enterQuarter_99 : decode cX1_enterQuarter 99 = .ok (.iload_n 3, 1) := by decide +kernel
theorem dX1_enterQuarter_100 : decode cX1_enterQuarter 100 = .ok (.aaload, 1) := by decide +kernel
theorem dX1_enterQuarter_101 : decode cX1_enterQuarter 101 = .ok (.iload 4, 2) := by decide +kernel
theorem dX1_enterQuarter_103 : decode cX1_enterQuarter 103 = .ok (.invokestatic 124, 3) := by decide +kernel
theorem dX1_enterQuarter_106 : decode cX1_enterQuarter 106 = .ok (.putfield 129, 3) := by decide +kernel
theorem dX1_enterQuarter_109 : decode cX1_enterQuarter 109 = .ok (.aload_n 0, 1) := by decide +kernel
theorem dX1_enterQuarter_110 : decode cX1_enterQuarter 110 = .ok (.getfield 23, 3) := by decide +kernel
theorem dX1_enterQuarter_113 : decode cX1_enterQuarter 113 = .ok (.iload_n 3, 1) := by decide +kernel
theorem dX1_enterQuarter_114 : decode cX1_enterQuarter 114 = .ok (.aaload, 1) := by decide +kernel
theorem dX1_enterQuarter_115 : decode cX1_enterQuarter 115 = .ok (.iload 5, 2) := by decide +kernel
theorem dX1_enterQuarter_117 : decode cX1_enterQuarter 117 = .ok (.ifCond .eq 25, 3) := by decide +kernel
theorem dX1_enterQuarter_120 : decode cX1_enterQuarter 120 = .ok (.aload_n 0, 1) := by decide +kernel
theorem dX1_enterQuarter_121 : decode cX1_enterQuarter 121 = .ok (.getfield 101, 3) := by decide +kernel
theorem dX1_enterQuarter_124 : decode cX1_enterQuarter 124 = .ok (.sipush 900, 3) := by decide +kernel
theorem dX1_enterQuarter_127 : decode cX1_enterQuarter 127 = .ok (.imul, 1) := by decide +kernel
theorem dX1_enterQuarter_128 : decode cX1_enterQuarter 128 = .ok (.aload_n 0, 1) := by decide +kernel
theorem dX1_enterQuarter_129 : decode cX1_enterQuarter 129 = .ok (.getfield 38, 3) := by decide +kernel
theorem dX1_enterQuarter_132 : decode cX1_enterQuarter 132 = .ok (.getfield 132, 3) := by decide +kernel
theorem dX1_enterQuarter_135 : decode cX1_enterQuarter 135 = .ok (.bipush 6, 2) := by decide +kernel
theorem dX1_enterQuarter_137 : decode cX1_enterQuarter 137 = .ok (.iaload, 1) := by decide +kernel
theorem dX1_enterQuarter_138 : decode cX1_enterQuarter 138 = .ok (.iadd, 1) := by decide +kernel
theorem dX1_enterQuarter_139 : decode cX1_enterQuarter 139 = .ok (.goto 4, 3) := by decide +kernel
theorem dX1_enterQuarter_142 : decode cX1_enterQuarter 142 = .ok (.iconst 0, 1) := by decide +kernel
theorem dX1_enterQuarter_143 : decode cX1_enterQuarter 143 = .ok (.putfield 135, 3) := by decide +kernel
theorem dX1_enterQuarter_146 : decode cX1_enterQuarter 146 = .ok (.iinc 3 1, 3) := by decide +kernel
theorem dX1_enterQuarter_149 : decode cX1_enterQuarter 149 = .ok (.goto (-123), 3) := by decide +kernel
theorem dX1_enterQuarter_152 : decode cX1_enterQuarter 152 = .ok (.return_, 1) := by decide +kernel
theorem dX1_nextSecond_0 : decode cX1_nextSecond 0 = .ok (.sipush 7200, 3) := by decide +kernel
theorem dX1_nextSecond_3 : decode cX1_nextSecond 3 = .ok (.istore_n 2, 1) := by decide +kernel
theorem dX1_nextSecond_4 : decode cX1_nextSecond 4 = .ok (.aload_n 0, 1) := by decide +kernel
theorem dX1_nextSecond_5 : decode cX1_nextSecond 5 = .ok (.getfield 57, 3) := by decide +kernel
theorem dX1_nextSecond_8 : decode cX1_nextSecond 8 = .ok (.aload_n 0, 1) := by decide +kernel
theorem dX1_nextSecond_9 : decode cX1_nextSecond 9 = .ok (.getfield 31, 3) := by decide +kernel
theorem dX1_nextSecond_12 : decode cX1_nextSecond 12 = .ok (.getfield 60, 3) := by decide +kernel
theorem dX1_nextSecond_15 : decode cX1_nextSecond 15 = .ok (.if_icmp .ge 20, 3) := by decide +kernel
theorem dX1_nextSecond_18 : decode cX1_nextSecond 18 = .ok (.iload_n 2, 1) := by decide +kernel
theorem dX1_nextSecond_19 : decode cX1_nextSecond 19 = .ok (.aload_n 0, 1) := by decide +kernel
theorem dX1_nextSecond_20 : decode cX1_nextSecond 20 = .ok (.getfield 31, 3) := by decide +kernel
theorem dX1_nextSecond_23 : decode cX1_nextSecond 23 = .ok (.getfield 63, 3) := by decide +kernel
theorem dX1_nextSecond_26 : decode cX1_nextSecond 26 = .ok (.aload_n 0, 1) := by decide +kernel
theorem dX1_nextSecond_27 : decode cX1_nextSecond 27 = .ok (.getfield 57, 3) := by decide +kernel
theorem dX1_nextSecond_30 : decode cX1_nextSecond 30 = .ok (.iaload, 1) := by decide +kernel
theorem dX1_nextSecond_31 : decode cX1_nextSecond 31 = .ok (.invokestatic 113, 3) := by decide +kernel
theorem dX1_nextSecond_34 : decode cX1_nextSecond 34 = .ok (.istore_n 2, 1) := by decide +kernel
theorem dX1_nextSecond_35 : decode cX1_nextSecond 35 = .ok (.aload_n 0, 1) := by decide +kernel
theorem dX1_nextSecond_36 : decode cX1_nextSecond 36 = .ok (.getfield 42, 3) := by decide +kernel
theorem dX1_nextSecond_39 : decode cX1_nextSecond 39 = .ok (.ifCond .ge 7, 3) := by decide +kernel
theorem dX1_nextSecond_42 : decode cX1_nextSecond 42 = .ok (.iconst 0, 1) := by decide +kernel
theorem dX1_nextSecond_43 : decode cX1_nextSecond 43 = .ok (.goto 17, 3) := by decide +kernel
theorem dX1_nextSecond_46 : decode cX1_nextSecond 46 = .ok (.aload_n 0, 1) := by decide +kernel
theorem dX1_nextSecond_47 : decode cX1_nextSecond 47 = .ok (.getfield 42, 3) := by decide +kernel
theorem dX1_nextSecond_50 : decode cX1_nextSecond 50 = .ok (.aload_n 0, 1) := by decide +kernel
theorem dX1_nextSecond_51 : decode cX1_nextSecond 51 = .ok (.getfield 38, 3) := by decide +kernel
theorem dX1_nextSecond_54 : decode cX1_nextSecond 54 = .ok (.getfield 132, 3) := by decide +kernel
theorem dX1_nextSecond_57 : decode cX1_nextSecond 57 = .ok (.iconst 1, 1) := by decide +kernel
theorem dX1_nextSecond_58 : decode cX1_nextSecond 58 = .ok (.iaload, 1) := by decide +kernel
theorem dX1_nextSecond_59 : decode cX1_nextSecond 59 = .ok (.iadd, 1) := by decide +kernel
theorem dX1_nextSecond_60 : decode cX1_nextSecond 60 = .ok (.istore_n 3, 1) := by decide +kernel
theorem dX1_nextSecond_61 : decode cX1_nextSecond 61 = .ok (.iconst 0, 1) := by decide +kernel
theorem dX1_nextSecond_62 : decode cX1_nextSecond 62 = .ok (.istore 4, 2) := by decide +kernel
theorem dX1_nextSecond_64 : decode cX1_nextSecond 64 = .ok (.iload 4, 2) := by decide +kernel
theorem dX1_nextSecond_66 : decode cX1_nextSecond 66 = .ok (.aload_n 0, 1) := by decide +kernel
theorem dX1_nextSecond_67 : decode cX1_nextSecond 67 = .ok (.getfield 38, 3) := by decide +kernel
theorem dX1_nextSecond_70 : decode cX1_nextSecond 70 = .ok (.getfield 70, 3) := by decide +kernel
theorem dX1_nextSecond_73 : decode cX1_nextSecond 73 = .ok (.if_icmp .ge 41, 3) := by decide +kernel
theorem dX1_nextSecond_76 : decode cX1_nextSecond 76 = .ok (.aload_n 0, 1) := by decide +kernel
theorem dX1_nextSecond_77 : decode cX1_nextSecond 77 = .ok (.getfield 23, 3) := by decide +kernel
theorem dX1_nextSecond_80 : decode cX1_nextSecond 80 = .ok (.iload 4, 2) := by decide +kernel
theorem dX1_nextSecond_82 : decode cX1_nextSecond 82 = .ok (.aaload, 1) := by decide +kernel
theorem dX1_nextSecond_83 : decode cX1_nextSecond 83 = .ok (.getfield 138, 3) := by decide +kernel
theorem dX1_nextSecond_86 : decode cX1_nextSecond 86 = .ok (.ifCond .eq 22, 3) := by decide +kernel
theorem dX1_nextSecond_89 : decode cX1_nextSecond 89 = .ok (.iload_n 2, 1) := by decide +kernel
theorem dX1_nextSecond_90 : decode cX1_nextSecond 90 = .ok (.aload_n 0, 1) := by decide +kernel
theorem dX1_nextSecond_91 : decode cX1_nextSecond 91 = .ok (.getfield 23, 3) := by decide +kernel
theorem dX1_nextSecond_94 : decode cX1_nextSecond 94 = .ok (.iload 4, 2) := by decide +kernel
theorem dX1_nextSecond_96 : decode cX1_nextSecond 96 = .ok (.aaload, 1) := by decide +kernel
theorem dX1_nextSecond_97 : decode cX1_nextSecond 97 = .ok (.getfield 142, 3) := by decide +kernel
theorem dX1_nextSecond_100 : decode cX1_nextSecond 100 = .ok (.iload_n 3, 1) := by decide +kernel
theorem dX1_nextSecond_101 : decode cX1_nextSecond 101 = .ok (.invokestatic 145, 3) := by decide +kernel
theorem dX1_nextSecond_104 : decode cX1_nextSecond 104 = .ok (.invokestatic 113, 3) := by decide +kernel
theorem dX1_nextSecond_107 : decode cX1_nextSecond 107 = .ok (.istore_n 2, 1) := by decide +kernel
theorem dX1_nextSecond_108 : decode cX1_nextSecond 108 = .ok (.iinc 4 1, 3) := by decide +kernel
theorem dX1_nextSecond_111 : decode cX1_nextSecond 111 = .ok (.goto (-47), 3) := by decide +kernel
theorem dX1_nextSecond_114 : decode cX1_nextSecond 114 = .ok (.iload_n 2, 1) := by decide +kernel
theorem dX1_nextSecond_115 : decode cX1_nextSecond 115 = .ok (.iload_n 1, 1) := by decide +kernel
theorem dX1_nextSecond_116 : decode cX1_nextSecond 116 = .ok (.iconst 1, 1) := by decide +kernel
theorem dX1_nextSecond_117 : decode cX1_nextSecond 117 = .ok (.iadd, 1) := by decide +kernel
theorem dX1_nextSecond_118 : decode cX1_nextSecond 118 = .ok (.invokestatic 145, 3) := by decide +kernel
theorem dX1_nextSecond_121 : decode cX1_nextSecond 121 = .ok (.ireturn, 1) := by decide +kernel
theorem dX1_admit_0 : decode cX1_admit 0 = .ok (.aload_n 0, 1) := by decide +kernel
theorem dX1_admit_1 : decode cX1_admit 1 = .ok (.invokevirtual 148, 3) := by decide +kernel
theorem dX1_admit_4 : decode cX1_admit 4 = .ok (.istore_n 3, 1) := by decide +kernel
theorem dX1_admit_5 : decode cX1_admit 5 = .ok (.aload_n 0, 1) := by decide +kernel
theorem dX1_admit_6 : decode cX1_admit 6 = .ok (.aload_n 0, 1) := by decide +kernel
theorem dX1_admit_7 : decode cX1_admit 7 = .ok (.getfield 31, 3) := by decide +kernel
theorem dX1_admit_10 : decode cX1_admit 10 = .ok (.getfield 152, 3) := by decide +kernel
theorem dX1_admit_13 : decode cX1_admit 13 = .ok (.iload_n 1, 1) := by decide +kernel
theorem dX1_admit_14 : decode cX1_admit 14 = .ok (.iaload, 1) := by decide +kernel
theorem dX1_admit_15 : decode cX1_admit 15 = .ok (.iload_n 2, 1) := by decide +kernel
theorem dX1_admit_16 : decode cX1_admit 16 = .ok (.invokevirtual 155, 3) := by decide +kernel
theorem dX1_admit_19 : decode cX1_admit 19 = .ok (.istore 4, 2) := by decide +kernel
theorem dX1_admit_21 : decode cX1_admit 21 = .ok (.iload 4, 2) := by decide +kernel
theorem dX1_admit_23 : decode cX1_admit 23 = .ok (.ifCond .ge 22, 3) := by decide +kernel
theorem dX1_admit_26 : decode cX1_admit 26 = .ok (.aload_n 0, 1) := by decide +kernel
theorem dX1_admit_27 : decode cX1_admit 27 = .ok (.getfield 18, 3) := by decide +kernel
theorem dX1_admit_30 : decode cX1_admit 30 = .ok (.aload_n 0, 1) := by decide +kernel
theorem dX1_admit_31 : decode cX1_admit 31 = .ok (.getfield 31, 3) := by decide +kernel
theorem dX1_admit_34 : decode cX1_admit 34 = .ok (.getfield 152, 3) := by decide +kernel
theorem dX1_admit_37 : decode cX1_admit 37 = .ok (.iload_n 1, 1) := by decide +kernel
theorem dX1_admit_38 : decode cX1_admit 38 = .ok (.iaload, 1) := by decide +kernel
theorem dX1_admit_39 : decode cX1_admit 39 = .ok (.dup2, 1) := by decide +kernel
theorem dX1_admit_40 : decode cX1_admit 40 = .ok (.iaload, 1) := by decide +kernel
theorem dX1_admit_41 : decode cX1_admit 41 = .ok (.iconst 1, 1) := by decide +kernel
theorem dX1_admit_42 : decode cX1_admit 42 = .ok (.iadd, 1) := by decide +kernel
theorem dX1_admit_43 : decode cX1_admit 43 = .ok (.iastore, 1) := by decide +kernel
theorem dX1_admit_44 : decode cX1_admit 44 = .ok (.return_, 1) := by decide +kernel
theorem dX1_admit_45 : decode cX1_admit 45 = .ok (.iload 4, 2) := by decide +kernel
theorem dX1_admit_47 : decode cX1_admit 47 = .ok (.iconst 1, 1) := by decide +kernel
theorem dX1_admit_48 : decode cX1_admit 48 = .ok (.iadd, 1) := by decide +kernel
theorem dX1_admit_49 : decode cX1_admit 49 = .ok (.aload_n 0, 1) := by decide +kernel
theorem dX1_admit_50 : decode cX1_admit 50 = .ok (.getfield 38, 3) := by decide +kernel
theorem dX1_admit_53 : decode cX1_admit 53 = .ok (.getfield 70, 3) := by decide +kernel
theorem dX1_admit_56 : decode cX1_admit 56 = .ok (.if_icmp .ge 10, 3) := by decide +kernel
theorem dX1_admit_59 : decode cX1_admit 59 = .ok (.iload 4, 2) := by decide +kernel
theorem dX1_admit_61 : decode cX1_admit 61 = .ok (.iconst 1, 1) := by decide +kernel
theorem dX1_admit_62 : decode cX1_admit 62 = .ok (.iadd, 1) := by decide +kernel
theorem dX1_admit_63 : decode cX1_admit 63 = .ok (.goto 4, 3) := by decide +kernel
theorem dX1_admit_66 : decode cX1_admit 66 = .ok (.iconst 0, 1) := by decide +kernel
theorem dX1_admit_67 : decode cX1_admit 67 = .ok (.istore 5, 2) := by decide +kernel
theorem dX1_admit_69 : decode cX1_admit 69 = .ok (.iload_n 3, 1) := by decide +kernel
theorem dX1_admit_70 : decode cX1_admit 70 = .ok (.ifCond .eq 48, 3) := by decide +kernel
theorem dX1_admit_73 : decode cX1_admit 73 = .ok (.iload 5, 2) := by decide +kernel
theorem dX1_admit_75 : decode cX1_admit 75 = .ok (.iload 4, 2) := by decide +kernel
theorem dX1_admit_77 : decode cX1_admit 77 = .ok (.if_icmp .eq 41, 3) := by decide +kernel
theorem dX1_admit_80 : decode cX1_admit 80 = .ok (.aload_n 0, 1) := by decide +kernel
theorem dX1_admit_81 : decode cX1_admit 81 = .ok (.aload_n 0, 1) := by decide +kernel
theorem dX1_admit_82 : decode cX1_admit 82 = .ok (.getfield 23, 3) := by decide +kernel
theorem dX1_admit_85 : decode cX1_admit 85 = .ok (.iload 5, 2) := by decide +kernel
theorem dX1_admit_87 : decode cX1_admit 87 = .ok (.aaload, 1) := by decide +kernel
theorem dX1_admit_88 : decode cX1_admit 88 = .ok (.invokevirtual 158, 3) := by decide +kernel
theorem dX1_admit_91 : decode cX1_admit 91 = .ok (.ifCond .eq 27, 3) := by decide +kernel
theorem dX1_admit_94 : decode cX1_admit 94 = .ok (.aload_n 0, 1) := by decide +kernel
theorem dX1_admit_95 : decode cX1_admit 95 = .ok (.getfield 31, 3) := by decide +kernel
theorem dX1_admit_98 : decode cX1_admit 98 = .ok (.getfield 162, 3) := by decide +kernel
theorem dX1_admit_101 : decode cX1_admit 101 = .ok (.iload_n 1, 1) := by decide +kernel
theorem dX1_admit_102 : decode cX1_admit 102 = .ok (.iconst 1, 1) := by decide +kernel
theorem dX1_admit_103 : decode cX1_admit 103 = .ok (.bastore, 1) := by decide +kernel
theorem dX1_admit_104 : decode cX1_admit 104 = .ok (.aload_n 0, 1) := by decide +kernel
theorem dX1_admit_105 : decode cX1_admit 105 = .ok (.dup, 1) := by decide +kernel
theorem dX1_admit_106 : decode cX1_admit 106 = .ok (.getfield 107, 3) := by decide +kernel
theorem dX1_admit_109 : decode cX1_admit 109 = .ok (.iconst 1, 1) := by decide +kernel
theorem dX1_admit_110 : decode cX1_admit 110 = .ok (.iadd, 1) := by decide +kernel
theorem dX1_admit_111 : decode cX1_admit 111 = .ok (.putfield 107, 3) := by decide +kernel
theorem dX1_admit_114 : decode cX1_admit 114 = .ok (.iload 5, 2) := by decide +kernel
theorem dX1_admit_116 : decode cX1_admit 116 = .ok (.istore 4, 2) := by decide +kernel
theorem dX1_admit_118 : decode cX1_admit 118 = .ok (.aload_n 0, 1) := by decide +kernel
theorem dX1_admit_119 : decode cX1_admit 119 = .ok (.getfield 23, 3) := by decide +kernel
theorem dX1_admit_122 : decode cX1_admit 122 = .ok (.iload 4, 2) := by decide +kernel
theorem dX1_admit_124 : decode cX1_admit 124 = .ok (.aaload, 1) := by decide +kernel
theorem dX1_admit_125 : decode cX1_admit 125 = .ok (.aload_n 0, 1) := by decide +kernel
theorem dX1_admit_126 : decode cX1_admit 126 = .ok (.getfield 31, 3) := by decide +kernel
theorem dX1_admit_129 : decode cX1_admit 129 = .ok (.iload_n 1, 1) := by decide +kernel
theorem dX1_admit_130 : decode cX1_admit 130 = .ok (.invokevirtual 166, 3) := by decide +kernel
theorem dX1_admit_133 : decode cX1_admit 133 = .ok (.return_, 1) := by decide +kernel
theorem dX1_countStray_0 : decode cX1_countStray 0 = .ok (.aload_n 0, 1) := by decide +kernel
theorem dX1_countStray_1 : decode cX1_countStray 1 = .ok (.dup, 1) := by decide +kernel
theorem dX1_countStray_2 : decode cX1_countStray 2 = .ok (.getfield 104, 3) := by decide +kernel
theorem dX1_countStray_5 : decode cX1_countStray 5 = .ok (.aload_n 0, 1) := by decide +kernel
theorem dX1_countStray_6 : decode cX1_countStray 6 = .ok (.getfield 38, 3) := by decide +kernel
theorem dX1_countStray_9 : decode cX1_countStray 9 = .ok (.getfield 132, 3) := by decide +kernel
theorem dX1_countStray_12 : decode cX1_countStray 12 = .ok (.iconst 2, 1) := by decide +kernel
theorem dX1_countStray_13 : decode cX1_countStray 13 = .ok (.iaload, 1) := by decide +kernel
theorem dX1_countStray_14 : decode cX1_countStray 14 = .ok (.bipush 8, 2) := by decide +kernel
theorem dX1_countStray_16 : decode cX1_countStray 16 = .ok (.aload_n 0, 1) := by decide +kernel
theorem dX1_countStray_17 : decode cX1_countStray 17 = .ok (.getfield 38, 3) := by decide +kernel
theorem dX1_countStray_20 : decode cX1_countStray 20 = .ok (.getfield 132, 3) := by decide +kernel
theorem dX1_countStray_23 : decode cX1_countStray 23 = .ok (.bipush 7, 2) := by decide +kernel
theorem dX1_countStray_25 : decode cX1_countStray 25 = .ok (.iaload, 1) := by decide +kernel
theorem dX1_countStray_26 : decode cX1_countStray 26 = .ok (.imul, 1) := by decide +kernel
theorem dX1_countStray_27 : decode cX1_countStray 27 = .ok (.isub, 1) := by decide +kernel
theorem dX1_countStray_28 : decode cX1_countStray 28 = .ok (.iconst 0, 1) := by decide +kernel
theorem dX1_countStray_29 : decode cX1_countStray 29 = .ok (.invokestatic 145, 3) := by decide +kernel
theorem dX1_countStray_32 : decode cX1_countStray 32 = .ok (.iadd, 1) := by decide +kernel
theorem dX1_countStray_33 : decode cX1_countStray 33 = .ok (.putfield 104, 3) := by decide +kernel
theorem dX1_countStray_36 : decode cX1_countStray 36 = .ok (.aload_n 0, 1) := by decide +kernel
theorem dX1_countStray_37 : decode cX1_countStray 37 = .ok (.getfield 104, 3) := by decide +kernel
theorem dX1_countStray_40 : decode cX1_countStray 40 = .ok (.bipush 100, 2) := by decide +kernel
theorem dX1_countStray_42 : decode cX1_countStray 42 = .ok (.if_icmp .ge 5, 3) := by decide +kernel
theorem dX1_countStray_45 : decode cX1_countStray 45 = .ok (.iconst 0, 1) := by decide +kernel
theorem dX1_countStray_46 : decode cX1_countStray 46 = .ok (.ireturn, 1) := by decide +kernel
theorem dX1_countStray_47 : decode cX1_countStray 47 = .ok (.aload_n 0, 1) := by decide +kernel
theorem dX1_countStray_48 : decode cX1_countStray 48 = .ok (.dup, 1) := by decide +kernel
theorem dX1_countStray_49 : decode cX1_countStray 49 = .ok (.getfield 104, 3) := by decide +kernel
theorem dX1_countStray_52 : decode cX1_countStray 52 = .ok (.bipush 100, 2) := by decide +kernel
theorem dX1_countStray_54 : decode cX1_countStray 54 = .ok (.isub, 1) := by decide +kernel
theorem dX1_countStray_55 : decode cX1_countStray 55 = .ok (.putfield 104, 3) := by decide +kernel
theorem dX1_countStray_58 : decode cX1_countStray 58 = .ok (.iconst 1, 1) := by decide +kernel
theorem dX1_countStray_59 : decode cX1_countStray 59 = .ok (.ireturn, 1) := by decide +kernel
theorem dX1_choose_0 : decode cX1_choose 0 = .ok (.iconst (-1), 1) := by decide +kernel
theorem dX1_choose_1 : decode cX1_choose 1 = .ok (.istore_n 3, 1) := by decide +kernel
theorem dX1_choose_2 : decode cX1_choose 2 = .ok (.iconst 0, 1) := by decide +kernel
theorem dX1_choose_3 : decode cX1_choose 3 = .ok (.istore 4, 2) := by decide +kernel
theorem dX1_choose_5 : decode cX1_choose 5 = .ok (.iload 4, 2) := by decide +kernel
theorem dX1_choose_7 : decode cX1_choose 7 = .ok (.aload_n 0, 1) := by decide +kernel
theorem dX1_choose_8 : decode cX1_choose 8 = .ok (.getfield 38, 3) := by decide +kernel
theorem dX1_choose_11 : decode cX1_choose 11 = .ok (.getfield 70, 3) := by decide +kernel
theorem dX1_choose_14 : decode cX1_choose 14 = .ok (.if_icmp .ge 83, 3) := by decide +kernel
theorem dX1_choose_17 : decode cX1_choose 17 = .ok (.aload_n 0, 1) := by decide +kernel
theorem dX1_choose_18 : decode cX1_choose 18 = .ok (.getfield 23, 3) := by decide +kernel
theorem dX1_choose_21 : decode cX1_choose 21 = .ok (.iload 4, 2) := by decide +kernel
theorem dX1_choose_23 : decode cX1_choose 23 = .ok (.aaload, 1) := by decide +kernel
theorem dX1_choose_24 : decode cX1_choose 24 = .ok (.astore 5, 2) := by decide +kernel
theorem dX1_choose_26 : decode cX1_choose 26 = .ok (.aload 5, 2) := by decide +kernel
theorem dX1_choose_28 : decode cX1_choose 28 = .ok (.getfield 121, 3) := by decide +kernel
theorem dX1_choose_31 : decode cX1_choose 31 = .ok (.iload_n 1, 1) := by decide +kernel
theorem dX1_choose_32 : decode cX1_choose 32 = .ok (.invokestatic 170, 3) := by decide +kernel
theorem dX1_choose_35 : decode cX1_choose 35 = .ok (.ifCond .eq 25, 3) := by decide +kernel
theorem dX1_choose_38 : decode cX1_choose 38 = .ok (.aload_n 0, 1) := by decide +kernel
theorem dX1_choose_39 : decode cX1_choose 39 = .ok (.aload 5, 2) := by decide +kernel
theorem dX1_choose_41 : decode cX1_choose 41 = .ok (.invokevirtual 158, 3) := by decide +kernel
theorem dX1_choose_44 : decode cX1_choose 44 = .ok (.ifCond .eq 16, 3) := by decide +kernel
theorem dX1_choose_47 : decode cX1_choose 47 = .ok (.iload_n 2, 1) := by decide +kernel
theorem dX1_choose_48 : decode cX1_choose 48 = .ok (.aload 5, 2) := by decide +kernel
theorem dX1_choose_50 : decode cX1_choose 50 = .ok (.getfield 135, 3) := by decide +kernel
theorem dX1_choose_53 : decode cX1_choose 53 = .ok (.if_icmp .lt 7, 3) := by decide +kernel
theorem dX1_choose_56 : decode cX1_choose 56 = .ok (.iconst 1, 1) := by decide +kernel
theorem dX1_choose_57 : decode cX1_choose 57 = .ok (.goto 4, 3) := by decide +kernel
theorem dX1_choose_60 : decode cX1_choose 60 = .ok (.iconst 0, 1) := by decide +kernel
theorem dX1_choose_61 : decode cX1_choose 61 = .ok (.istore 6, 2) := by decide +kernel
theorem dX1_choose_63 : decode cX1_choose 63 = .ok (.iload 6, 2) := by decide +kernel
theorem dX1_choose_65 : decode cX1_choose 65 = .ok (.ifCond .eq 26, 3) := by decide +kernel
theorem dX1_choose_68 : decode cX1_choose 68 = .ok (.iload_n 3, 1) := by decide +kernel
theorem dX1_choose_69 : decode cX1_choose 69 = .ok (.ifCond .lt 19, 3) := by decide +kernel
theorem dX1_choose_72 : decode cX1_choose 72 = .ok (.aload_n 0, 1) := by decide +kernel
theorem dX1_choose_73 : decode cX1_choose 73 = .ok (.aload 5, 2) := by decide +kernel
theorem dX1_choose_75 : decode cX1_choose 75 = .ok (.aload_n 0, 1) := by decide +kernel
theorem dX1_choose_76 : decode cX1_choose 76 = .ok (.getfield 23, 3) := by decide +kernel
theorem dX1_choose_79 : decode cX1_choose 79 = .ok (.iload_n 3, 1) := by decide +kernel
theorem dX1_choose_80 : decode cX1_choose 80 = .ok (.aaload, 1) := by decide +kernel
theorem dX1_choose_81 : decode cX1_choose 81 = .ok (.iload_n 2, 1) := by decide +kernel
theorem dX1_choose_82 : decode cX1_choose 82 = .ok (.invokevirtual 174, 3) := by decide +kernel
theorem dX1_choose_85 : decode cX1_choose 85 = .ok (.ifCond .eq 6, 3) := by decide +kernel
theorem dX1_choose_88 : decode cX1_choose 88 = .ok (.iload 4, 2) := by decide +kernel
theorem dX1_choose_90 : decode cX1_choose 90 = .ok (.istore_n 3, 1) := by decide +kernel
theorem dX1_choose_91 : decode cX1_choose 91 = .ok (.iinc 4 1, 3) := by decide +kernel
theorem dX1_choose_94 : decode cX1_choose 94 = .ok (.goto (-89), 3) := by decide +kernel
theorem dX1_choose_97 : decode cX1_choose 97 = .ok (.iload_n 3, 1) := by decide +kernel
theorem dX1_choose_98 : decode cX1_choose 98 = .ok (.ireturn, 1) := by decide +kernel
theorem dX1_hasPlace_0 : decode cX1_hasPlace 0 = .ok (.aload_n 1, 1) := by decide +kernel
theorem dX1_hasPlace_1 : decode cX1_hasPlace 1 = .ok (.getfield 178, 3) := by decide +kernel
theorem dX1_hasPlace_4 : decode cX1_hasPlace 4 = .ok (.aload_n 0, 1) := by decide +kernel
theorem dX1_hasPlace_5 : decode cX1_hasPlace 5 = .ok (.getfield 38, 3) := by decide +kernel
theorem dX1_hasPlace_8 : decode cX1_hasPlace 8 = .ok (.getfield 132, 3) := by decide +kernel
theorem dX1_hasPlace_11 : decode cX1_hasPlace 11 = .ok (.iconst 5, 1) := by decide +kernel
theorem dX1_hasPlace_12 : decode cX1_hasPlace 12 = .ok (.iaload, 1) := by decide +kernel
theorem dX1_hasPlace_13 : decode cX1_hasPlace 13 = .ok (.if_icmp .ge 7, 3) := by decide +kernel
theorem dX1_hasPlace_16 : decode cX1_hasPlace 16 = .ok (.iconst 1, 1) := by decide +kernel
theorem dX1_hasPlace_17 : decode cX1_hasPlace 17 = .ok (.goto 4, 3) := by decide +kernel
theorem dX1_hasPlace_20 : decode cX1_hasPlace 20 = .ok (.iconst 0, 1) := by decide +kernel
theorem dX1_hasPlace_21 : decode cX1_hasPlace 21 = .ok (.ireturn, 1) := by decide +kernel
theorem dX1_isBetter_0 : decode cX1_isBetter 0 = .ok (.aload_n 0, 1) := by decide +kernel
theorem dX1_isBetter_1 : decode cX1_isBetter 1 = .ok (.getfield 38, 3) := by decide +kernel
theorem dX1_isBetter_4 : decode cX1_isBetter 4 = .ok (.getfield 132, 3) := by decide +kernel
theorem dX1_isBetter_7 : decode cX1_isBetter 7 = .ok (.iconst 4, 1) := by decide +kernel
theorem dX1_isBetter_8 : decode cX1_isBetter 8 = .ok (.iaload, 1) := by decide +kernel
theorem dX1_isBetter_9 : decode cX1_isBetter 9 = .ok (.tableswitch 60 1 4 #[31, 37, 56, 58], 31) := by decide +kernel
theorem dX1_isBetter_40 : decode cX1_isBetter 40 = .ok (.aload_n 1, 1) := by decide +kernel
theorem dX1_isBetter_41 : decode cX1_isBetter 41 = .ok (.aload_n 2, 1) := by decide +kernel
theorem dX1_isBetter_42 : decode cX1_isBetter 42 = .ok (.invokestatic 181, 3) := by decide +kernel
theorem dX1_isBetter_45 : decode cX1_isBetter 45 = .ok (.ireturn, 1) := by decide +kernel
theorem dX1_isBetter_46 : decode cX1_isBetter 46 = .ok (.aload_n 1, 1) := by decide +kernel
theorem dX1_isBetter_47 : decode cX1_isBetter 47 = .ok (.iload_n 3, 1) := by decide +kernel
theorem dX1_isBetter_48 : decode cX1_isBetter 48 = .ok (.invokevirtual 185, 3) := by decide +kernel
theorem dX1_isBetter_51 : decode cX1_isBetter 51 = .ok (.aload_n 2, 1) := by decide +kernel
theorem dX1_isBetter_52 : decode cX1_isBetter 52 = .ok (.iload_n 3, 1) := by decide +kernel
theorem dX1_isBetter_53 : decode cX1_isBetter 53 = .ok (.invokevirtual 185, 3) := by decide +kernel
theorem dX1_isBetter_56 : decode cX1_isBetter 56 = .ok (.if_icmp .ge 7, 3) := by decide +kernel
theorem dX1_isBetter_59 : decode cX1_isBetter 59 = .ok (.iconst 1, 1) := by decide +kernel
theorem dX1_isBetter_60 : decode cX1_isBetter 60 = .ok (.goto 4, 3) := by decide +kernel
theorem dX1_isBetter_63 : decode cX1_isBetter 63 = .ok (.iconst 0, 1) := by decide +kernel
theorem dX1_isBetter_64 : decode cX1_isBetter 64 = .ok (.ireturn, 1) := by decide +kernel
theorem dX1_isBetter_65 : decode cX1_isBetter 65 = .ok (.iconst 0, 1) := by decide +kernel
theorem dX1_isBetter_66 : decode cX1_isBetter 66 = .ok (.ireturn, 1) := by decide +kernel
theorem dX1_isBetter_67 : decode cX1_isBetter 67 = .ok (.iconst 1, 1) := by decide +kernel
theorem dX1_isBetter_68 : decode cX1_isBetter 68 = .ok (.ireturn, 1) := by decide +kernel
theorem dX1_isBetter_69 : decode cX1_isBetter 69 = .ok (.aload_n 1, 1) := by decide +kernel
theorem dX1_isBetter_70 : decode cX1_isBetter 70 = .ok (.getfield 178, 3) := by decide +kernel
theorem dX1_isBetter_73 : decode cX1_isBetter 73 = .ok (.aload_n 2, 1) := by decide +kernel
theorem dX1_isBetter_74 : decode cX1_isBetter 74 = .ok (.getfield 178, 3) := by decide +kernel
theorem dX1_isBetter_77 : decode cX1_isBetter 77 = .ok (.if_icmp .ge 7, 3) := by decide +kernel
theorem dX1_isBetter_80 : decode cX1_isBetter 80 = .ok (.iconst 1, 1) := by decide +kernel
theorem dX1_isBetter_81 : decode cX1_isBetter 81 = .ok (.goto 4, 3) := by decide +kernel
theorem dX1_isBetter_84 : decode cX1_isBetter 84 = .ok (.iconst 0, 1) := by decide +kernel
theorem dX1_isBetter_85 : decode cX1_isBetter 85 = .ok (.ireturn, 1) := by decide +kernel
theorem dX1_isMoreApart_0 : decode cX1_isMoreApart 0 = .ok (.aload_n 0, 1) := by decide +kernel
theorem dX1_isMoreApart_1 : decode cX1_isMoreApart 1 = .ok (.getfield 129, 3) := by decide +kernel
theorem dX1_isMoreApart_4 : decode cX1_isMoreApart 4 = .ok (.aload_n 1, 1) := by decide +kernel
theorem dX1_isMoreApart_5 : decode cX1_isMoreApart 5 = .ok (.getfield 129, 3) := by decide +kernel
theorem dX1_isMoreApart_8 : decode cX1_isMoreApart 8 = .ok (.if_icmp .ne 7, 3) := by decide +kernel
theorem dX1_isMoreApart_11 : decode cX1_isMoreApart 11 = .ok (.iconst 1, 1) := by decide +kernel
theorem dX1_isMoreApart_12 : decode cX1_isMoreApart 12 = .ok (.goto 4, 3) := by decide +kernel
theorem dX1_isMoreApart_15 : decode cX1_isMoreApart 15 = .ok (.iconst 0, 1) := by decide +kernel
theorem dX1_isMoreApart_16 : decode cX1_isMoreApart 16 = .ok (.istore_n 2, 1) := by decide +kernel
theorem dX1_isMoreApart_17 : decode cX1_isMoreApart 17 = .ok (.aload_n 0, 1) := by decide +kernel
theorem dX1_isMoreApart_18 : decode cX1_isMoreApart 18 = .ok (.getfield 129, 3) := by decide +kernel
theorem dX1_isMoreApart_21 : decode cX1_isMoreApart 21 = .ok (.aload_n 1, 1) := by decide +kernel
theorem dX1_isMoreApart_22 : decode cX1_isMoreApart 22 = .ok (.getfield 129, 3) := by decide +kernel
theorem dX1_isMoreApart_25 : decode cX1_isMoreApart 25 = .ok (.if_icmp .lt 18, 3) := by decide +kernel
theorem dX1_isMoreApart_28 : decode cX1_isMoreApart 28 = .ok (.iload_n 2, 1) := by decide +kernel
theorem dX1_isMoreApart_29 : decode cX1_isMoreApart 29 = .ok (.ifCond .eq 18, 3) := by decide +kernel
theorem dX1_isMoreApart_32 : decode cX1_isMoreApart 32 = .ok (.aload_n 0, 1) := by decide +kernel
theorem dX1_isMoreApart_33 : decode cX1_isMoreApart 33 = .ok (.getfield 178, 3) := by decide +kernel
theorem dX1_isMoreApart_36 : decode cX1_isMoreApart 36 = .ok (.aload_n 1, 1) := by decide +kernel
theorem dX1_isMoreApart_37 : decode cX1_isMoreApart 37 = .ok (.getfield 178, 3) := by decide +kernel
theorem dX1_isMoreApart_40 : decode cX1_isMoreApart 40 = .ok (.if_icmp .ge 7, 3) := by decide +kernel
theorem dX1_isMoreApart_43 : decode cX1_isMoreApart 43 = .ok (.iconst 1, 1) := by decide +kernel
theorem dX1_isMoreApart_44 : decode cX1_isMoreApart 44 = .ok (.goto 4, 3) := by decide +kernel
theorem dX1_isMoreApart_47 : decode cX1_isMoreApart 47 = .ok (.iconst 0, 1) := by decide +kernel
theorem dX1_isMoreApart_48 : decode cX1_isMoreApart 48 = .ok (.ireturn, 1) := by decide +kernel
theorem dX1_leaveLine_0 : decode cX1_leaveLine 0 = .ok (.aload_n 0, 1) := by decide +kernel
theorem dX1_leaveLine_1 : decode cX1_leaveLine 1 = .ok (.getfield 42, 3) := by decide +kernel
theorem dX1_leaveLine_4 : decode cX1_leaveLine 4 = .ok (.ifCond .lt 21, 3) := by decide +kernel
theorem dX1_leaveLine_7 : decode cX1_leaveLine 7 = .ok (.iload_n 2, 1) := by decide +kernel
theorem dX1_leaveLine_8 : decode cX1_leaveLine 8 = .ok (.aload_n 0, 1) := by decide +kernel
theorem dX1_leaveLine_9 : decode cX1_leaveLine 9 = .ok (.getfield 42, 3) := by decide +kernel
theorem dX1_leaveLine_12 : decode cX1_leaveLine 12 = .ok (.isub, 1) := by decide +kernel
theorem dX1_leaveLine_13 : decode cX1_leaveLine 13 = .ok (.aload_n 0, 1) := by decide +kernel
theorem dX1_leaveLine_14 : decode cX1_leaveLine 14 = .ok (.getfield 38, 3) := by decide +kernel
theorem dX1_leaveLine_17 : decode cX1_leaveLine 17 = .ok (.getfield 132, 3) := by decide +kernel
theorem dX1_leaveLine_20 : decode cX1_leaveLine 20 = .ok (.iconst 1, 1) := by decide +kernel
theorem dX1_leaveLine_21 : decode cX1_leaveLine 21 = .ok (.iaload, 1) := by decide +kernel
theorem dX1_leaveLine_22 : decode cX1_leaveLine 22 = .ok (.if_icmp .lt 7, 3) := by decide +kernel
theorem dX1_leaveLine_25 : decode cX1_leaveLine 25 = .ok (.iconst 1, 1) := by decide +kernel
theorem dX1_leaveLine_26 : decode cX1_leaveLine 26 = .ok (.goto 4, 3) := by decide +kernel
theorem dX1_leaveLine_29 : decode cX1_leaveLine 29 = .ok (.iconst 0, 1) := by decide +kernel
theorem dX1_leaveLine_30 : decode cX1_leaveLine 30 = .ok (.istore_n 3, 1) := by decide +kernel
theorem dX1_leaveLine_31 : decode cX1_leaveLine 31 = .ok (.aload_n 1, 1) := by decide +kernel
theorem dX1_leaveLine_32 : decode cX1_leaveLine 32 = .ok (.getfield 138, 3) := by decide +kernel
theorem dX1_leaveLine_35 : decode cX1_leaveLine 35 = .ok (.ifCond .eq 76, 3) := by decide +kernel
theorem dX1_leaveLine_38 : decode cX1_leaveLine 38 = .ok (.aload_n 1, 1) := by decide +kernel
theorem dX1_leaveLine_39 : decode cX1_leaveLine 39 = .ok (.getfield 188, 3) := by decide +kernel
theorem dX1_leaveLine_42 : decode cX1_leaveLine 42 = .ok (.ifCond .lt 69, 3) := by decide +kernel
theorem dX1_leaveLine_45 : decode cX1_leaveLine 45 = .ok (.aload_n 1, 1) := by decide +kernel
theorem dX1_leaveLine_46 : decode cX1_leaveLine 46 = .ok (.getfield 142, 3) := by decide +kernel
theorem dX1_leaveLine_49 : decode cX1_leaveLine 49 = .ok (.iload_n 2, 1) := by decide +kernel
theorem dX1_leaveLine_50 : decode cX1_leaveLine 50 = .ok (.if_icmp .gt 61, 3) := by decide +kernel
theorem dX1_leaveLine_53 : decode cX1_leaveLine 53 = .ok (.iload_n 3, 1) := by decide +kernel
theorem dX1_leaveLine_54 : decode cX1_leaveLine 54 = .ok (.ifCond .eq 57, 3) := by decide +kernel
theorem dX1_leaveLine_57 : decode cX1_leaveLine 57 = .ok (.aload_n 0, 1) := by decide +kernel
theorem dX1_leaveLine_58 : decode cX1_leaveLine 58 = .ok (.getfield 31, 3) := by decide +kernel
theorem dX1_leaveLine_61 : decode cX1_leaveLine 61 = .ok (.getfield 152, 3) := by decide +kernel
theorem dX1_leaveLine_64 : decode cX1_leaveLine 64 = .ok (.aload_n 1, 1) := by decide +kernel
theorem dX1_leaveLine_65 : decode cX1_leaveLine 65 = .ok (.getfield 188, 3) := by decide +kernel
theorem dX1_leaveLine_68 : decode cX1_leaveLine 68 = .ok (.iaload, 1) := by decide +kernel
theorem dX1_leaveLine_69 : decode cX1_leaveLine 69 = .ok (.istore 4, 2) := by decide +kernel
theorem dX1_leaveLine_71 : decode cX1_leaveLine 71 = .ok (.aload_n 0, 1) := by decide +kernel
theorem dX1_leaveLine_72 : decode cX1_leaveLine 72 = .ok (.getfield 15, 3) := by decide +kernel
theorem dX1_leaveLine_75 : decode cX1_leaveLine 75 = .ok (.iload 4, 2) := by decide +kernel
theorem dX1_leaveLine_77 : decode cX1_leaveLine 77 = .ok (.dup2, 1) := by decide +kernel
theorem dX1_leaveLine_78 : decode cX1_leaveLine 78 = .ok (.iaload, 1) := by decide +kernel
theorem dX1_leaveLine_79 : decode cX1_leaveLine 79 = .ok (.iconst 1, 1) := by decide +kernel
theorem dX1_leaveLine_80 : decode cX1_leaveLine 80 = .ok (.iadd, 1) := by decide +kernel
theorem dX1_leaveLine_81 : decode cX1_leaveLine 81 = .ok (.iastore, 1) := by decide +kernel
theorem dX1_leaveLine_82 : decode cX1_leaveLine 82 = .ok (.aload_n 0, 1) := by decide +kernel
theorem dX1_leaveLine_83 : decode cX1_leaveLine 83 = .ok (.getfield 9, 3) := by decide +kernel
theorem dX1_leaveLine_86 : decode cX1_leaveLine 86 = .ok (.iload 4, 2) := by decide +kernel
theorem dX1_leaveLine_88 : decode cX1_leaveLine 88 = .ok (.dup2, 1) := by decide +kernel
theorem dX1_leaveLine_89 : decode cX1_leaveLine 89 = .ok (.iaload, 1) := by decide +kernel
theorem dX1_leaveLine_90 : decode cX1_leaveLine 90 = .ok (.iload_n 2, 1) := by decide +kernel
theorem dX1_leaveLine_91 : decode cX1_leaveLine 91 = .ok (.aload_n 1, 1) := by decide +kernel
theorem dX1_leaveLine_92 : decode cX1_leaveLine 92 = .ok (.getfield 142, 3) := by decide +kernel
theorem dX1_leaveLine_95 : decode cX1_leaveLine 95 = .ok (.isub, 1) := by decide +kernel
theorem dX1_leaveLine_96 : decode cX1_leaveLine 96 = .ok (.iadd, 1) := by decide +kernel
theorem dX1_leaveLine_97 : decode cX1_leaveLine 97 = .ok (.iastore, 1) := by decide +kernel
theorem dX1_leaveLine_98 : decode cX1_leaveLine 98 = .ok (.aload_n 0, 1) := by decide +kernel
theorem dX1_leaveLine_99 : decode cX1_leaveLine 99 = .ok (.iload_n 2, 1) := by decide +kernel
theorem dX1_leaveLine_100 : decode cX1_leaveLine 100 = .ok (.putfield 42, 3) := by decide +kernel
theorem dX1_leaveLine_103 : decode cX1_leaveLine 103 = .ok (.aload_n 1, 1) := by decide +kernel
theorem dX1_leaveLine_104 : decode cX1_leaveLine 104 = .ok (.aload_n 0, 1) := by decide +kernel
theorem dX1_leaveLine_105 : decode cX1_leaveLine 105 = .ok (.getfield 31, 3) := by decide +kernel
theorem dX1_leaveLine_108 : decode cX1_leaveLine 108 = .ok (.invokevirtual 191, 3) := by decide +kernel
theorem dX1_leaveLine_111 : decode cX1_leaveLine 111 = .ok (.return_, 1) := by decide +kernel
theorem dX1_serveLine_0 : decode cX1_serveLine 0 = .ok (.aload_n 1, 1) := by decide +kernel
theorem dX1_serveLine_1 : decode cX1_serveLine 1 = .ok (.getfield 138, 3) := by decide +kernel
theorem dX1_serveLine_4 : decode cX1_serveLine 4 = .ok (.ifCond .ne 63, 3) := by decide +kernel
theorem dX1_serveLine_7 : decode cX1_serveLine 7 = .ok (.aload_n 1, 1) := by decide +kernel
theorem dX1_serveLine_8 : decode cX1_serveLine 8 = .ok (.getfield 188, 3) := by decide +kernel
theorem dX1_serveLine_11 : decode cX1_serveLine 11 = .ok (.ifCond .lt 56, 3) := by decide +kernel
theorem dX1_serveLine_14 : decode cX1_serveLine 14 = .ok (.aload_n 0, 1) := by decide +kernel
theorem dX1_serveLine_15 : decode cX1_serveLine 15 = .ok (.getfield 9, 3) := by decide +kernel
theorem dX1_serveLine_18 : decode cX1_serveLine 18 = .ok (.aload_n 0, 1) := by decide +kernel
theorem dX1_serveLine_19 : decode cX1_serveLine 19 = .ok (.getfield 31, 3) := by decide +kernel
theorem dX1_serveLine_22 : decode cX1_serveLine 22 = .ok (.getfield 152, 3) := by decide +kernel
theorem dX1_serveLine_25 : decode cX1_serveLine 25 = .ok (.aload_n 1, 1) := by decide +kernel
theorem dX1_serveLine_26 : decode cX1_serveLine 26 = .ok (.getfield 188, 3) := by decide +kernel
theorem dX1_serveLine_29 : decode cX1_serveLine 29 = .ok (.iaload, 1) := by decide +kernel
theorem dX1_serveLine_30 : decode cX1_serveLine 30 = .ok (.dup2, 1) := by decide +kernel
theorem dX1_serveLine_31 : decode cX1_serveLine 31 = .ok (.iaload, 1) := by decide +kernel
theorem dX1_serveLine_32 : decode cX1_serveLine 32 = .ok (.iload_n 2, 1) := by decide +kernel
theorem dX1_serveLine_33 : decode cX1_serveLine 33 = .ok (.aload_n 0, 1) := by decide +kernel
theorem dX1_serveLine_34 : decode cX1_serveLine 34 = .ok (.getfield 31, 3) := by decide +kernel
theorem dX1_serveLine_37 : decode cX1_serveLine 37 = .ok (.getfield 63, 3) := by decide +kernel
theorem dX1_serveLine_40 : decode cX1_serveLine 40 = .ok (.aload_n 1, 1) := by decide +kernel
theorem dX1_serveLine_41 : decode cX1_serveLine 41 = .ok (.getfield 188, 3) := by decide +kernel
theorem dX1_serveLine_44 : decode cX1_serveLine 44 = .ok (.iaload, 1) := by decide +kernel
theorem dX1_serveLine_45 : decode cX1_serveLine 45 = .ok (.isub, 1) := by decide +kernel
theorem dX1_serveLine_46 : decode cX1_serveLine 46 = .ok (.iadd, 1) := by decide +kernel
theorem dX1_serveLine_47 : decode cX1_serveLine 47 = .ok (.iastore, 1) := by decide +kernel
theorem dX1_serveLine_48 : decode cX1_serveLine 48 = .ok (.aload_n 1, 1) := by decide +kernel
theorem dX1_serveLine_49 : decode cX1_serveLine 49 = .ok (.aload_n 0, 1) := by decide +kernel
theorem dX1_serveLine_50 : decode cX1_serveLine 50 = .ok (.getfield 31, 3) := by decide +kernel
theorem dX1_serveLine_53 : decode cX1_serveLine 53 = .ok (.iload_n 2, 1) := by decide +kernel
theorem dX1_serveLine_54 : decode cX1_serveLine 54 = .ok (.aload_n 0, 1) := by decide +kernel
theorem dX1_serveLine_55 : decode cX1_serveLine 55 = .ok (.aload_n 1, 1) := by decide +kernel
theorem dX1_serveLine_56 : decode cX1_serveLine 56 = .ok (.aload_n 1, 1) := by decide +kernel
theorem dX1_serveLine_57 : decode cX1_serveLine 57 = .ok (.getfield 188, 3) := by decide +kernel
theorem dX1_serveLine_60 : decode cX1_serveLine 60 = .ok (.invokevirtual 195, 3) := by decide +kernel
theorem dX1_serveLine_63 : decode cX1_serveLine 63 = .ok (.iadd, 1) := by decide +kernel
theorem dX1_serveLine_64 : decode cX1_serveLine 64 = .ok (.invokevirtual 199, 3) := by decide +kernel
theorem dX1_serveLine_67 : decode cX1_serveLine 67 = .ok (.aload_n 1, 1) := by decide +kernel
theorem dX1_serveLine_68 : decode cX1_serveLine 68 = .ok (.aload_n 1, 1) := by decide +kernel
theorem dX1_serveLine_69 : decode cX1_serveLine 69 = .ok (.getfield 202, 3) := by decide +kernel
theorem dX1_serveLine_72 : decode cX1_serveLine 72 = .ok (.aload_n 1, 1) := by decide +kernel
theorem dX1_serveLine_73 : decode cX1_serveLine 73 = .ok (.getfield 178, 3) := by decide +kernel
theorem dX1_serveLine_76 : decode cX1_serveLine 76 = .ok (.invokestatic 145, 3) := by decide +kernel
theorem dX1_serveLine_79 : decode cX1_serveLine 79 = .ok (.putfield 202, 3) := by decide +kernel
theorem dX1_serveLine_82 : decode cX1_serveLine 82 = .ok (.return_, 1) := by decide +kernel
theorem dX1_timeFor_0 : decode cX1_timeFor 0 = .ok (.aload_n 0, 1) := by decide +kernel
theorem dX1_timeFor_1 : decode cX1_timeFor 1 = .ok (.getfield 31, 3) := by decide +kernel
theorem dX1_timeFor_4 : decode cX1_timeFor 4 = .ok (.getfield 152, 3) := by decide +kernel
theorem dX1_timeFor_7 : decode cX1_timeFor 7 = .ok (.iload_n 2, 1) := by decide +kernel
theorem dX1_timeFor_8 : decode cX1_timeFor 8 = .ok (.iaload, 1) := by decide +kernel
theorem dX1_timeFor_9 : decode cX1_timeFor 9 = .ok (.istore_n 3, 1) := by decide +kernel
theorem dX1_timeFor_10 : decode cX1_timeFor 10 = .ok (.aload_n 0, 1) := by decide +kernel
theorem dX1_timeFor_11 : decode cX1_timeFor 11 = .ok (.getfield 31, 3) := by decide +kernel
theorem dX1_timeFor_14 : decode cX1_timeFor 14 = .ok (.getfield 205, 3) := by decide +kernel
theorem dX1_timeFor_17 : decode cX1_timeFor 17 = .ok (.iload_n 2, 1) := by decide +kernel
theorem dX1_timeFor_18 : decode cX1_timeFor 18 = .ok (.iaload, 1) := by decide +kernel
theorem dX1_timeFor_19 : decode cX1_timeFor 19 = .ok (.istore 4, 2) := by decide +kernel
theorem dX1_timeFor_21 : decode cX1_timeFor 21 = .ok (.aload_n 1, 1) := by decide +kernel
theorem dX1_timeFor_22 : decode cX1_timeFor 22 = .ok (.getfield 208, 3) := by decide +kernel
theorem dX1_timeFor_25 : decode cX1_timeFor 25 = .ok (.ifCond .lt 25, 3) := by decide +kernel
theorem dX1_timeFor_28 : decode cX1_timeFor 28 = .ok (.aload_n 1, 1) := by decide +kernel
theorem dX1_timeFor_29 : decode cX1_timeFor 29 = .ok (.getfield 208, 3) := by decide +kernel
theorem dX1_timeFor_32 : decode cX1_timeFor 32 = .ok (.iload_n 3, 1) := by decide +kernel
theorem dX1_timeFor_33 : decode cX1_timeFor 33 = .ok (.if_icmp .eq 17, 3) := by decide +kernel
theorem dX1_timeFor_36 : decode cX1_timeFor 36 = .ok (.iload 4, 2) := by decide +kernel
theorem dX1_timeFor_38 : decode cX1_timeFor 38 = .ok (.aload_n 0, 1) := by decide +kernel
theorem dX1_timeFor_39 : decode cX1_timeFor 39 = .ok (.getfield 38, 3) := by decide +kernel
theorem dX1_timeFor_42 : decode cX1_timeFor 42 = .ok (.getfield 132, 3) := by decide +kernel
theorem dX1_timeFor_45 : decode cX1_timeFor 45 = .ok (.iconst 0, 1) := by decide +kernel
theorem dX1_timeFor_46 : decode cX1_timeFor 46 = .ok (.iaload, 1) := by decide +kernel
theorem dX1_timeFor_47 : decode cX1_timeFor 47 = .ok (.iadd, 1) := by decide +kernel
theorem dX1_timeFor_48 : decode cX1_timeFor 48 = .ok (.istore 4, 2) := by decide +kernel
theorem dX1_timeFor_50 : decode cX1_timeFor 50 = .ok (.aload_n 0, 1) := by decide +kernel
theorem dX1_timeFor_51 : decode cX1_timeFor 51 = .ok (.getfield 31, 3) := by decide +kernel
theorem dX1_timeFor_54 : decode cX1_timeFor 54 = .ok (.getfield 162, 3) := by decide +kernel
theorem dX1_timeFor_57 : decode cX1_timeFor 57 = .ok (.iload_n 2, 1) := by decide +kernel
theorem dX1_timeFor_58 : decode cX1_timeFor 58 = .ok (.baload, 1) := by decide +kernel
theorem dX1_timeFor_59 : decode cX1_timeFor 59 = .ok (.ifCond .eq 28, 3) := by decide +kernel
theorem dX1_timeFor_62 : decode cX1_timeFor 62 = .ok (.aload_n 1, 1) := by decide +kernel
theorem dX1_timeFor_63 : decode cX1_timeFor 63 = .ok (.getfield 121, 3) := by decide +kernel
theorem dX1_timeFor_66 : decode cX1_timeFor 66 = .ok (.iload_n 3, 1) := by decide +kernel
theorem dX1_timeFor_67 : decode cX1_timeFor 67 = .ok (.invokestatic 170, 3) := by decide +kernel
theorem dX1_timeFor_70 : decode cX1_timeFor 70 = .ok (.ifCond .ne 17, 3) := by decide +kernel
theorem dX1_timeFor_73 : decode cX1_timeFor 73 = .ok (.iload 4, 2) := by decide +kernel
theorem dX1_timeFor_75 : decode cX1_timeFor 75 = .ok (.aload_n 0, 1) := by decide +kernel
theorem dX1_timeFor_76 : decode cX1_timeFor 76 = .ok (.getfield 38, 3) := by decide +kernel
theorem dX1_timeFor_79 : decode cX1_timeFor 79 = .ok (.getfield 132, 3) := by decide +kernel
theorem dX1_timeFor_82 : decode cX1_timeFor 82 = .ok (.iconst 3, 1) := by decide +kernel
theorem dX1_timeFor_83 : decode cX1_timeFor 83 = .ok (.iaload, 1) := by decide +kernel
theorem dX1_timeFor_84 : decode cX1_timeFor 84 = .ok (.iadd, 1) := by decide +kernel
theorem dX1_timeFor_85 : decode cX1_timeFor 85 = .ok (.istore 4, 2) := by decide +kernel
theorem dX1_timeFor_87 : decode cX1_timeFor 87 = .ok (.iload 4, 2) := by decide +kernel
theorem dX1_timeFor_89 : decode cX1_timeFor 89 = .ok (.ireturn, 1) := by decide +kernel
theorem dX1_closeLine_0 : decode cX1_closeLine 0 = .ok (.aload_n 1, 1) := by decide +kernel
theorem dX1_closeLine_1 : decode cX1_closeLine 1 = .ok (.getfield 188, 3) := by decide +kernel
theorem dX1_closeLine_4 : decode cX1_closeLine 4 = .ok (.istore_n 2, 1) := by decide +kernel
theorem dX1_closeLine_5 : decode cX1_closeLine 5 = .ok (.iconst 0, 1) := by decide +kernel
theorem dX1_closeLine_6 : decode cX1_closeLine 6 = .ok (.istore_n 3, 1) := by decide +kernel
theorem dX1_closeLine_7 : decode cX1_closeLine 7 = .ok (.iload_n 3, 1) := by decide +kernel
theorem dX1_closeLine_8 : decode cX1_closeLine 8 = .ok (.aload_n 1, 1) := by decide +kernel
theorem dX1_closeLine_9 : decode cX1_closeLine 9 = .ok (.getfield 178, 3) := by decide +kernel
theorem dX1_closeLine_12 : decode cX1_closeLine 12 = .ok (.if_icmp .ge 93, 3) := by decide +kernel
theorem dX1_closeLine_15 : decode cX1_closeLine 15 = .ok (.iload_n 2, 1) := by decide +kernel
theorem dX1_closeLine_16 : decode cX1_closeLine 16 = .ok (.ifCond .lt 89, 3) := by decide +kernel
theorem dX1_closeLine_19 : decode cX1_closeLine 19 = .ok (.iload_n 3, 1) := by decide +kernel
theorem dX1_closeLine_20 : decode cX1_closeLine 20 = .ok (.ifCond .ne 14, 3) := by decide +kernel
theorem dX1_closeLine_23 : decode cX1_closeLine 23 = .ok (.aload_n 1, 1) := by decide +kernel
theorem dX1_closeLine_24 : decode cX1_closeLine 24 = .ok (.getfield 138, 3) := by decide +kernel
theorem dX1_closeLine_27 : decode cX1_closeLine 27 = .ok (.ifCond .eq 7, 3) := by decide +kernel
theorem dX1_closeLine_30 : decode cX1_closeLine 30 = .ok (.iconst 1, 1) := by decide +kernel
theorem dX1_closeLine_31 : decode cX1_closeLine 31 = .ok (.goto 4, 3) := by decide +kernel
theorem dX1_closeLine_34 : decode cX1_closeLine 34 = .ok (.iconst 0, 1) := by decide +kernel
theorem dX1_closeLine_35 : decode cX1_closeLine 35 = .ok (.istore 4, 2) := by decide +kernel
theorem dX1_closeLine_37 : decode cX1_closeLine 37 = .ok (.iload 4, 2) := by decide +kernel
theorem dX1_closeLine_39 : decode cX1_closeLine 39 = .ok (.ifCond .eq 16, 3) := by decide +kernel
theorem dX1_closeLine_42 : decode cX1_closeLine 42 = .ok (.aload_n 1, 1) := by decide +kernel
theorem dX1_closeLine_43 : decode cX1_closeLine 43 = .ok (.getfield 142, 3) := by decide +kernel
theorem dX1_closeLine_46 : decode cX1_closeLine 46 = .ok (.sipush 7200, 3) := by decide +kernel
theorem dX1_closeLine_49 : decode cX1_closeLine 49 = .ok (.invokestatic 113, 3) := by decide +kernel
theorem dX1_closeLine_52 : decode cX1_closeLine 52 = .ok (.goto 12, 3) := by decide +kernel
theorem dX1_closeLine_55 : decode cX1_closeLine 55 = .ok (.aload_n 0, 1) := by decide +kernel
theorem dX1_closeLine_56 : decode cX1_closeLine 56 = .ok (.getfield 31, 3) := by decide +kernel
theorem dX1_closeLine_59 : decode cX1_closeLine 59 = .ok (.getfield 63, 3) := by decide +kernel
theorem dX1_closeLine_62 : decode cX1_closeLine 62 = .ok (.iload_n 2, 1) := by decide +kernel
theorem dX1_closeLine_63 : decode cX1_closeLine 63 = .ok (.iaload, 1) := by decide +kernel
theorem dX1_closeLine_64 : decode cX1_closeLine 64 = .ok (.istore 5, 2) := by decide +kernel
theorem dX1_closeLine_66 : decode cX1_closeLine 66 = .ok (.aload_n 0, 1) := by decide +kernel
theorem dX1_closeLine_67 : decode cX1_closeLine 67 = .ok (.getfield 9, 3) := by decide +kernel
theorem dX1_closeLine_70 : decode cX1_closeLine 70 = .ok (.aload_n 0, 1) := by decide +kernel
theorem dX1_closeLine_71 : decode cX1_closeLine 71 = .ok (.getfield 31, 3) := by decide +kernel
theorem dX1_closeLine_74 : decode cX1_closeLine 74 = .ok (.getfield 152, 3) := by decide +kernel
theorem dX1_closeLine_77 : decode cX1_closeLine 77 = .ok (.iload_n 2, 1) := by decide +kernel
theorem dX1_closeLine_78 : decode cX1_closeLine 78 = .ok (.iaload, 1) := by decide +kernel
theorem dX1_closeLine_79 : decode cX1_closeLine 79 = .ok (.dup2, 1) := by decide +kernel
theorem dX1_closeLine_80 : decode cX1_closeLine 80 = .ok (.iaload, 1) := by decide +kernel
theorem dX1_closeLine_81 : decode cX1_closeLine 81 = .ok (.sipush 7200, 3) := by decide +kernel
theorem dX1_closeLine_84 : decode cX1_closeLine 84 = .ok (.iload 5, 2) := by decide +kernel
theorem dX1_closeLine_86 : decode cX1_closeLine 86 = .ok (.isub, 1) := by decide +kernel
theorem dX1_closeLine_87 : decode cX1_closeLine 87 = .ok (.iadd, 1) := by decide +kernel
theorem dX1_closeLine_88 : decode cX1_closeLine 88 = .ok (.iastore, 1) := by decide +kernel
theorem dX1_closeLine_89 : decode cX1_closeLine 89 = .ok (.aload_n 0, 1) := by decide +kernel
theorem dX1_closeLine_90 : decode cX1_closeLine 90 = .ok (.getfield 31, 3) := by decide +kernel
theorem dX1_closeLine_93 : decode cX1_closeLine 93 = .ok (.getfield 211, 3) := by decide +kernel
theorem dX1_closeLine_96 : decode cX1_closeLine 96 = .ok (.iload_n 2, 1) := by decide +kernel
theorem dX1_closeLine_97 : decode cX1_closeLine 97 = .ok (.iaload, 1) := by decide +kernel
theorem dX1_closeLine_98 : decode cX1_closeLine 98 = .ok (.istore_n 2, 1) := by decide +kernel
theorem dX1_closeLine_99 : decode cX1_closeLine 99 = .ok (.iinc 3 1, 3) := by decide +kernel
theorem dX1_closeLine_102 : decode cX1_closeLine 102 = .ok (.goto (-95), 3) := by decide +kernel
theorem dX1_closeLine_105 : decode cX1_closeLine 105 = .ok (.return_, 1) := by decide +kernel
theorem dX2_copy_0 : decode cX2_copy 0 = .ok (.aload_n 0, 1) := by decide +kernel
theorem dX2_copy_1 : decode cX2_copy 1 = .ok (.aload_n 1, 1) := by decide +kernel
theorem dX2_copy_2 : decode cX2_copy 2 = .ok (.getfield 9, 3) := by decide +kernel
theorem dX2_copy_5 : decode cX2_copy 5 = .ok (.putfield 9, 3) := by decide +kernel
theorem dX2_copy_8 : decode cX2_copy 8 = .ok (.aload_n 0, 1) := by decide +kernel
theorem dX2_copy_9 : decode cX2_copy 9 = .ok (.aload_n 1, 1) := by decide +kernel
theorem dX2_copy_10 : decode cX2_copy 10 = .ok (.getfield 15, 3) := by decide +kernel
theorem dX2_copy_13 : decode cX2_copy 13 = .ok (.putfield 15, 3) := by decide +kernel
theorem dX2_copy_16 : decode cX2_copy 16 = .ok (.aload_n 1, 1) := by decide +kernel
theorem dX2_copy_17 : decode cX2_copy 17 = .ok (.getfield 18, 3) := by decide +kernel
theorem dX2_copy_20 : decode cX2_copy 20 = .ok (.iconst 0, 1) := by decide +kernel
theorem dX2_copy_21 : decode cX2_copy 21 = .ok (.aload_n 0, 1) := by decide +kernel
theorem dX2_copy_22 : decode cX2_copy 22 = .ok (.getfield 18, 3) := by decide +kernel
theorem dX2_copy_25 : decode cX2_copy 25 = .ok (.iconst 0, 1) := by decide +kernel
theorem dX2_copy_26 : decode cX2_copy 26 = .ok (.iconst 5, 1) := by decide +kernel
theorem dX2_copy_27 : decode cX2_copy 27 = .ok (.invokestatic 40, 3) := by decide +kernel
theorem dX2_copy_30 : decode cX2_copy 30 = .ok (.aload_n 1, 1) := by decide +kernel
theorem dX2_copy_31 : decode cX2_copy 31 = .ok (.getfield 22, 3) := by decide +kernel
theorem dX2_copy_34 : decode cX2_copy 34 = .ok (.iconst 0, 1) := by decide +kernel
theorem dX2_copy_35 : decode cX2_copy 35 = .ok (.aload_n 0, 1) := by decide +kernel
theorem dX2_copy_36 : decode cX2_copy 36 = .ok (.getfield 22, 3) := by decide +kernel
theorem dX2_copy_39 : decode cX2_copy 39 = .ok (.iconst 0, 1) := by decide +kernel
theorem dX2_copy_40 : decode cX2_copy 40 = .ok (.iconst 5, 1) := by decide +kernel
theorem dX2_copy_41 : decode cX2_copy 41 = .ok (.invokestatic 40, 3) := by decide +kernel
theorem dX2_copy_44 : decode cX2_copy 44 = .ok (.aload_n 1, 1) := by decide +kernel
theorem dX2_copy_45 : decode cX2_copy 45 = .ok (.getfield 25, 3) := by decide +kernel
theorem dX2_copy_48 : decode cX2_copy 48 = .ok (.iconst 0, 1) := by decide +kernel
theorem dX2_copy_49 : decode cX2_copy 49 = .ok (.aload_n 0, 1) := by decide +kernel
theorem dX2_copy_50 : decode cX2_copy 50 = .ok (.getfield 25, 3) := by decide +kernel
theorem dX2_copy_53 : decode cX2_copy 53 = .ok (.iconst 0, 1) := by decide +kernel
theorem dX2_copy_54 : decode cX2_copy 54 = .ok (.bipush 20, 2) := by decide +kernel
theorem dX2_copy_56 : decode cX2_copy 56 = .ok (.invokestatic 40, 3) := by decide +kernel
theorem dX2_copy_59 : decode cX2_copy 59 = .ok (.aload_n 1, 1) := by decide +kernel
theorem dX2_copy_60 : decode cX2_copy 60 = .ok (.getfield 28, 3) := by decide +kernel
theorem dX2_copy_63 : decode cX2_copy 63 = .ok (.iconst 0, 1) := by decide +kernel
theorem dX2_copy_64 : decode cX2_copy 64 = .ok (.aload_n 0, 1) := by decide +kernel
theorem dX2_copy_65 : decode cX2_copy 65 = .ok (.getfield 28, 3) := by decide +kernel
theorem dX2_copy_68 : decode cX2_copy 68 = .ok (.iconst 0, 1) := by decide +kernel
theorem dX2_copy_69 : decode cX2_copy 69 = .ok (.bipush 20, 2) := by decide +kernel
theorem dX2_copy_71 : decode cX2_copy 71 = .ok (.invokestatic 40, 3) := by decide +kernel
theorem dX2_copy_74 : decode cX2_copy 74 = .ok (.aload_n 1, 1) := by decide +kernel
theorem dX2_copy_75 : decode cX2_copy 75 = .ok (.getfield 31, 3) := by decide +kernel
theorem dX2_copy_78 : decode cX2_copy 78 = .ok (.iconst 0, 1) := by decide +kernel
theorem dX2_copy_79 : decode cX2_copy 79 = .ok (.aload_n 0, 1) := by decide +kernel
theorem dX2_copy_80 : decode cX2_copy 80 = .ok (.getfield 31, 3) := by decide +kernel
theorem dX2_copy_83 : decode cX2_copy 83 = .ok (.iconst 0, 1) := by decide +kernel
theorem dX2_copy_84 : decode cX2_copy 84 = .ok (.bipush 24, 2) := by decide +kernel
theorem dX2_copy_86 : decode cX2_copy 86 = .ok (.invokestatic 40, 3) := by decide +kernel
theorem dX2_copy_89 : decode cX2_copy 89 = .ok (.aload_n 1, 1) := by decide +kernel
theorem dX2_copy_90 : decode cX2_copy 90 = .ok (.getfield 34, 3) := by decide +kernel
theorem dX2_copy_93 : decode cX2_copy 93 = .ok (.iconst 0, 1) := by decide +kernel
theorem dX2_copy_94 : decode cX2_copy 94 = .ok (.aload_n 0, 1) := by decide +kernel
theorem dX2_copy_95 : decode cX2_copy 95 = .ok (.getfield 34, 3) := by decide +kernel
theorem dX2_copy_98 : decode cX2_copy 98 = .ok (.iconst 0, 1) := by decide +kernel
theorem dX2_copy_99 : decode cX2_copy 99 = .ok (.bipush 8, 2) := by decide +kernel
theorem dX2_copy_101 : decode cX2_copy 101 = .ok (.invokestatic 40, 3) := by decide +kernel
theorem dX2_copy_104 : decode cX2_copy 104 = .ok (.return_, 1) := by decide +kernel
theorem dX2_hasSort_0 : decode cX2_hasSort 0 = .ok (.iload_n 1, 1) := by decide +kernel
theorem dX2_hasSort_1 : decode cX2_hasSort 1 = .ok (.ifCond .lt 15, 3) := by decide +kernel
theorem dX2_hasSort_4 : decode cX2_hasSort 4 = .ok (.iload_n 1, 1) := by decide +kernel
theorem dX2_hasSort_5 : decode cX2_hasSort 5 = .ok (.aload_n 0, 1) := by decide +kernel
theorem dX2_hasSort_6 : decode cX2_hasSort 6 = .ok (.getfield 9, 3) := by decide +kernel
theorem dX2_hasSort_9 : decode cX2_hasSort 9 = .ok (.if_icmp .ge 7, 3) := by decide +kernel
theorem dX2_hasSort_12 : decode cX2_hasSort 12 = .ok (.iconst 1, 1) := by decide +kernel
theorem dX2_hasSort_13 : decode cX2_hasSort 13 = .ok (.goto 4, 3) := by decide +kernel
theorem dX2_hasSort_16 : decode cX2_hasSort 16 = .ok (.iconst 0, 1) := by decide +kernel
theorem dX2_hasSort_17 : decode cX2_hasSort 17 = .ok (.ireturn, 1) := by decide +kernel
theorem dX2_hasLane_0 : decode cX2_hasLane 0 = .ok (.iload_n 1, 1) := by decide +kernel
theorem dX2_hasLane_1 : decode cX2_hasLane 1 = .ok (.ifCond .lt 15, 3) := by decide +kernel
theorem dX2_hasLane_4 : decode cX2_hasLane 4 = .ok (.iload_n 1, 1) := by decide +kernel
theorem dX2_hasLane_5 : decode cX2_hasLane 5 = .ok (.aload_n 0, 1) := by decide +kernel
theorem dX2_hasLane_6 : decode cX2_hasLane 6 = .ok (.getfield 15, 3) := by decide +kernel
theorem dX2_hasLane_9 : decode cX2_hasLane 9 = .ok (.if_icmp .ge 7, 3) := by decide +kernel
theorem dX2_hasLane_12 : decode cX2_hasLane 12 = .ok (.iconst 1, 1) := by decide +kernel
theorem dX2_hasLane_13 : decode cX2_hasLane 13 = .ok (.goto 4, 3) := by decide +kernel
theorem dX2_hasLane_16 : decode cX2_hasLane 16 = .ok (.iconst 0, 1) := by decide +kernel
theorem dX2_hasLane_17 : decode cX2_hasLane 17 = .ok (.ireturn, 1) := by decide +kernel
theorem dX2_addSort_0 : decode cX2_addSort 0 = .ok (.aload_n 0, 1) := by decide +kernel
theorem dX2_addSort_1 : decode cX2_addSort 1 = .ok (.getfield 9, 3) := by decide +kernel
theorem dX2_addSort_4 : decode cX2_addSort 4 = .ok (.iconst 5, 1) := by decide +kernel
theorem dX2_addSort_5 : decode cX2_addSort 5 = .ok (.if_icmp .ge 25, 3) := by decide +kernel
theorem dX2_addSort_8 : decode cX2_addSort 8 = .ok (.iload_n 1, 1) := by decide +kernel
theorem dX2_addSort_9 : decode cX2_addSort 9 = .ok (.iconst 1, 1) := by decide +kernel
theorem dX2_addSort_10 : decode cX2_addSort 10 = .ok (.if_icmp .lt 20, 3) := by decide +kernel
theorem dX2_addSort_13 : decode cX2_addSort 13 = .ok (.iload_n 1, 1) := by decide +kernel
theorem dX2_addSort_14 : decode cX2_addSort 14 = .ok (.bipush 60, 2) := by decide +kernel
theorem dX2_addSort_16 : decode cX2_addSort 16 = .ok (.if_icmp .gt 14, 3) := by decide +kernel
theorem dX2_addSort_19 : decode cX2_addSort 19 = .ok (.iload_n 2, 1) := by decide +kernel
theorem dX2_addSort_20 : decode cX2_addSort 20 = .ok (.iconst 1, 1) := by decide +kernel
theorem dX2_addSort_21 : decode cX2_addSort 21 = .ok (.if_icmp .lt 9, 3) := by decide +kernel
theorem dX2_addSort_24 : decode cX2_addSort 24 = .ok (.iload_n 2, 1) := by decide +kernel
theorem dX2_addSort_25 : decode cX2_addSort 25 = .ok (.bipush 99, 2) := by decide +kernel
theorem dX2_addSort_27 : decode cX2_addSort 27 = .ok (.if_icmp .le 5, 3) := by decide +kernel
theorem dX2_addSort_30 : decode cX2_addSort 30 = .ok (.iconst 0, 1) := by decide +kernel
theorem dX2_addSort_31 : decode cX2_addSort 31 = .ok (.ireturn, 1) := by decide +kernel
theorem dX2_addSort_32 : decode cX2_addSort 32 = .ok (.aload_n 0, 1) := by decide +kernel
theorem dX2_addSort_33 : decode cX2_addSort 33 = .ok (.getfield 18, 3) := by decide +kernel
theorem dX2_addSort_36 : decode cX2_addSort 36 = .ok (.aload_n 0, 1) := by decide +kernel
theorem dX2_addSort_37 : decode cX2_addSort 37 = .ok (.getfield 9, 3) := by decide +kernel
theorem dX2_addSort_40 : decode cX2_addSort 40 = .ok (.iload_n 1, 1) := by decide +kernel
theorem dX2_addSort_41 : decode cX2_addSort 41 = .ok (.iastore, 1) := by decide +kernel
theorem dX2_addSort_42 : decode cX2_addSort 42 = .ok (.aload_n 0, 1) := by decide +kernel
theorem dX2_addSort_43 : decode cX2_addSort 43 = .ok (.getfield 22, 3) := by decide +kernel
theorem dX2_addSort_46 : decode cX2_addSort 46 = .ok (.aload_n 0, 1) := by decide +kernel
theorem dX2_addSort_47 : decode cX2_addSort 47 = .ok (.getfield 9, 3) := by decide +kernel
theorem dX2_addSort_50 : decode cX2_addSort 50 = .ok (.iload_n 2, 1) := by decide +kernel
theorem dX2_addSort_51 : decode cX2_addSort 51 = .ok (.iastore, 1) := by decide +kernel
theorem dX2_addSort_52 : decode cX2_addSort 52 = .ok (.iconst 0, 1) := by decide +kernel
theorem dX2_addSort_53 : decode cX2_addSort 53 = .ok (.istore_n 3, 1) := by decide +kernel
theorem dX2_addSort_54 : decode cX2_addSort 54 = .ok (.iload_n 3, 1) := by decide +kernel
theorem dX2_addSort_55 : decode cX2_addSort 55 = .ok (.iconst 4, 1) := by decide +kernel
theorem dX2_addSort_56 : decode cX2_addSort 56 = .ok (.if_icmp .ge 37, 3) := by decide +kernel
theorem dX2_addSort_59 : decode cX2_addSort 59 = .ok (.aload_n 0, 1) := by decide +kernel
theorem dX2_addSort_60 : decode cX2_addSort 60 = .ok (.getfield 25, 3) := by decide +kernel
theorem dX2_addSort_63 : decode cX2_addSort 63 = .ok (.aload_n 0, 1) := by decide +kernel
theorem dX2_addSort_64 : decode cX2_addSort 64 = .ok (.getfield 9, 3) := by decide +kernel
theorem dX2_addSort_67 : decode cX2_addSort 67 = .ok (.iconst 4, 1) := by decide +kernel
theorem dX2_addSort_68 : decode cX2_addSort 68 = .ok (.imul, 1) := by decide +kernel
theorem dX2_addSort_69 : decode cX2_addSort 69 = .ok (.iload_n 3, 1) := by decide +kernel
theorem dX2_addSort_70 : decode cX2_addSort 70 = .ok (.iadd, 1) := by decide +kernel
theorem dX2_addSort_71 : decode cX2_addSort 71 = .ok (.iconst 0, 1) := by decide +kernel
theorem dX2_addSort_72 : decode cX2_addSort 72 = .ok (.iastore, 1) := by decide +kernel
theorem dX2_addSort_73 : decode cX2_addSort 73 = .ok (.aload_n 0, 1) := by decide +kernel
theorem dX2_addSort_74 : decode cX2_addSort 74 = .ok (.getfield 28, 3) := by decide +kernel
theorem dX2_addSort_77 : decode cX2_addSort 77 = .ok (.aload_n 0, 1) := by decide +kernel
theorem dX2_addSort_78 : decode cX2_addSort 78 = .ok (.getfield 9, 3) := by decide +kernel
theorem dX2_addSort_81 : decode cX2_addSort 81 = .ok (.iconst 4, 1) := by decide +kernel
theorem dX2_addSort_82 : decode cX2_addSort 82 = .ok (.imul, 1) := by decide +kernel
theorem dX2_addSort_83 : decode cX2_addSort 83 = .ok (.iload_n 3, 1) := by decide +kernel
theorem dX2_addSort_84 : decode cX2_addSort 84 = .ok (.iadd, 1) := by decide +kernel
theorem dX2_addSort_85 : decode cX2_addSort 85 = .ok (.iconst 0, 1) := by decide +kernel
theorem dX2_addSort_86 : decode cX2_addSort 86 = .ok (.iastore, 1) := by decide +kernel
theorem dX2_addSort_87 : decode cX2_addSort 87 = .ok (.iinc 3 1, 3) := by decide +kernel
theorem dX2_addSort_90 : decode cX2_addSort 90 = .ok (.goto (-36), 3) := by decide +kernel
theorem dX2_addSort_93 : decode cX2_addSort 93 = .ok (.aload_n 0, 1) := by decide +kernel
theorem dX2_addSort_94 : decode cX2_addSort 94 = .ok (.dup, 1) := by decide +kernel
theorem dX2_addSort_95 : decode cX2_addSort 95 = .ok (.getfield 9, 3) := by decide +kernel
theorem dX2_addSort_98 : decode cX2_addSort 98 = .ok (.iconst 1, 1) := by decide +kernel
theorem dX2_addSort_99 : decode cX2_addSort 99 = .ok (.iadd, 1) := by decide +kernel
theorem dX2_addSort_100 : decode cX2_addSort 100 = .ok (.putfield 9, 3) := by decide +kernel
theorem dX2_addSort_103 : decode cX2_addSort 103 = .ok (.iconst 1, 1) := by decide +kernel
theorem dX2_addSort_104 : decode cX2_addSort 104 = .ok (.ireturn, 1) := by decide +kernel
theorem dX2_addLane_0 : decode cX2_addLane 0 = .ok (.aload_n 0, 1) := by decide +kernel
theorem dX2_addLane_1 : decode cX2_addLane 1 = .ok (.getfield 15, 3) := by decide +kernel
theorem dX2_addLane_4 : decode cX2_addLane 4 = .ok (.bipush 6, 2) := by decide +kernel
theorem dX2_addLane_6 : decode cX2_addLane 6 = .ok (.if_icmp .ge 13, 3) := by decide +kernel
theorem dX2_addLane_9 : decode cX2_addLane 9 = .ok (.iload_n 1, 1) := by decide +kernel
theorem dX2_addLane_10 : decode cX2_addLane 10 = .ok (.ifCond .lt 9, 3) := by decide +kernel
theorem dX2_addLane_13 : decode cX2_addLane 13 = .ok (.iload_n 1, 1) := by decide +kernel
theorem dX2_addLane_14 : decode cX2_addLane 14 = .ok (.bipush 31, 2) := by decide +kernel
theorem dX2_addLane_16 : decode cX2_addLane 16 = .ok (.if_icmp .le 5, 3) := by decide +kernel
theorem dX2_addLane_19 : decode cX2_addLane 19 = .ok (.iconst 0, 1) := by decide +kernel
theorem dX2_addLane_20 : decode cX2_addLane 20 = .ok (.ireturn, 1) := by decide +kernel
theorem dX2_addLane_21 : decode cX2_addLane 21 = .ok (.aload_n 0, 1) := by decide +kernel
theorem dX2_addLane_22 : decode cX2_addLane 22 = .ok (.dup, 1) := by decide +kernel
theorem dX2_addLane_23 : decode cX2_addLane 23 = .ok (.getfield 15, 3) := by decide +kernel
theorem dX2_addLane_26 : decode cX2_addLane 26 = .ok (.iconst 1, 1) := by decide +kernel
theorem dX2_addLane_27 : decode cX2_addLane 27 = .ok (.iadd, 1) := by decide +kernel
theorem dX2_addLane_28 : decode cX2_addLane 28 = .ok (.putfield 15, 3) := by decide +kernel
theorem dX2_addLane_31 : decode cX2_addLane 31 = .ok (.aload_n 0, 1) := by decide +kernel
theorem dX2_addLane_32 : decode cX2_addLane 32 = .ok (.aload_n 0, 1) := by decide +kernel
theorem dX2_addLane_33 : decode cX2_addLane 33 = .ok (.getfield 15, 3) := by decide +kernel
theorem dX2_addLane_36 : decode cX2_addLane 36 = .ok (.iconst 1, 1) := by decide +kernel
theorem dX2_addLane_37 : decode cX2_addLane 37 = .ok (.isub, 1) := by decide +kernel
theorem dX2_addLane_38 : decode cX2_addLane 38 = .ok (.iload_n 1, 1) := by decide +kernel
theorem dX2_addLane_39 : decode cX2_addLane 39 = .ok (.invokevirtual 46, 3) := by decide +kernel
theorem dX2_addLane_42 : decode cX2_addLane 42 = .ok (.iconst 1, 1) := by decide +kernel
theorem dX2_addLane_43 : decode cX2_addLane 43 = .ok (.ireturn, 1) := by decide +kernel
theorem dX2_addComers_0 : decode cX2_addComers 0 = .ok (.iload_n 1, 1) := by decide +kernel
theorem dX2_addComers_1 : decode cX2_addComers 1 = .ok (.invokestatic 50, 3) := by decide +kernel
theorem dX2_addComers_4 : decode cX2_addComers 4 = .ok (.ifCond .eq 21, 3) := by decide +kernel
theorem dX2_addComers_7 : decode cX2_addComers 7 = .ok (.aload_n 0, 1) := by decide +kernel
theorem dX2_addComers_8 : decode cX2_addComers 8 = .ok (.iload_n 2, 1) := by decide +kernel
theorem dX2_addComers_9 : decode cX2_addComers 9 = .ok (.invokevirtual 54, 3) := by decide +kernel
theorem dX2_addComers_12 : decode cX2_addComers 12 = .ok (.ifCond .eq 13, 3) := by decide +kernel
theorem dX2_addComers_15 : decode cX2_addComers 15 = .ok (.iload_n 3, 1) := by decide +kernel
theorem dX2_addComers_16 : decode cX2_addComers 16 = .ok (.ifCond .lt 9, 3) := by decide +kernel
theorem dX2_addComers_19 : decode cX2_addComers 19 = .ok (.iload_n 3, 1) := by decide +kernel
theorem dX2_addComers_20 : decode cX2_addComers 20 = .ok (.bipush 25, 2) := by decide +kernel
theorem dX2_addComers_22 : decode cX2_addComers 22 = .ok (.if_icmp .le 5, 3) := by decide +kernel
theorem dX2_addComers_25 : decode cX2_addComers 25 = .ok (.iconst 0, 1) := by decide +kernel
theorem dX2_addComers_26 : decode cX2_addComers 26 = .ok (.ireturn, 1) := by decide +kernel
theorem dX2_addComers_27 : decode cX2_addComers 27 = .ok (.aload_n 0, 1) := by decide +kernel
theorem dX2_addComers_28 : decode cX2_addComers 28 = .ok (.iload_n 2, 1) := by decide +kernel
theorem dX2_addComers_29 : decode cX2_addComers 29 = .ok (.iload_n 1, 1) := by decide +kernel
theorem dX2_addComers_30 : decode cX2_addComers 30 = .ok (.iload_n 3, 1) := by decide +kernel
theorem dX2_addComers_31 : decode cX2_addComers 31 = .ok (.invokevirtual 57, 3) := by decide +kernel
theorem dX2_addComers_34 : decode cX2_addComers 34 = .ok (.iconst 1, 1) := by decide +kernel
theorem dX2_addComers_35 : decode cX2_addComers 35 = .ok (.ireturn, 1) := by decide +kernel
theorem dX2_addChange_0 : decode cX2_addChange 0 = .ok (.iload_n 1, 1) := by decide +kernel
theorem dX2_addChange_1 : decode cX2_addChange 1 = .ok (.iconst 1, 1) := by decide +kernel
theorem dX2_addChange_2 : decode cX2_addChange 2 = .ok (.if_icmp .lt 28, 3) := by decide +kernel
theorem dX2_addChange_5 : decode cX2_addChange 5 = .ok (.iload_n 1, 1) := by decide +kernel
theorem dX2_addChange_6 : decode cX2_addChange 6 = .ok (.invokestatic 50, 3) := by decide +kernel
theorem dX2_addChange_9 : decode cX2_addChange 9 = .ok (.ifCond .eq 21, 3) := by decide +kernel
theorem dX2_addChange_12 : decode cX2_addChange 12 = .ok (.aload_n 0, 1) := by decide +kernel
theorem dX2_addChange_13 : decode cX2_addChange 13 = .ok (.iload_n 2, 1) := by decide +kernel
theorem dX2_addChange_14 : decode cX2_addChange 14 = .ok (.invokevirtual 61, 3) := by decide +kernel
theorem dX2_addChange_17 : decode cX2_addChange 17 = .ok (.ifCond .eq 13, 3) := by decide +kernel
theorem dX2_addChange_20 : decode cX2_addChange 20 = .ok (.iload_n 3, 1) := by decide +kernel
theorem dX2_addChange_21 : decode cX2_addChange 21 = .ok (.ifCond .lt 9, 3) := by decide +kernel
theorem dX2_addChange_24 : decode cX2_addChange 24 = .ok (.iload_n 3, 1) := by decide +kernel
theorem dX2_addChange_25 : decode cX2_addChange 25 = .ok (.bipush 31, 2) := by decide +kernel
theorem dX2_addChange_27 : decode cX2_addChange 27 = .ok (.if_icmp .le 5, 3) := by decide +kernel
theorem dX2_addChange_30 : decode cX2_addChange 30 = .ok (.iconst 0, 1) := by decide +kernel
theorem dX2_addChange_31 : decode cX2_addChange 31 = .ok (.ireturn, 1) := by decide +kernel
theorem dX2_addChange_32 : decode cX2_addChange 32 = .ok (.aload_n 0, 1) := by decide +kernel
theorem dX2_addChange_33 : decode cX2_addChange 33 = .ok (.iload_n 2, 1) := by decide +kernel
theorem dX2_addChange_34 : decode cX2_addChange 34 = .ok (.iload_n 1, 1) := by decide +kernel
theorem dX2_addChange_35 : decode cX2_addChange 35 = .ok (.iload_n 3, 1) := by decide +kernel
theorem dX2_addChange_36 : decode cX2_addChange 36 = .ok (.invokevirtual 64, 3) := by decide +kernel
theorem dX2_addChange_39 : decode cX2_addChange 39 = .ok (.iconst 1, 1) := by decide +kernel
theorem dX2_addChange_40 : decode cX2_addChange 40 = .ok (.ireturn, 1) := by decide +kernel
theorem dX2_comersOf_0 : decode cX2_comersOf 0 = .ok (.aload_n 0, 1) := by decide +kernel
theorem dX2_comersOf_1 : decode cX2_comersOf 1 = .ok (.iload_n 1, 1) := by decide +kernel
theorem dX2_comersOf_2 : decode cX2_comersOf 2 = .ok (.invokevirtual 54, 3) := by decide +kernel
theorem dX2_comersOf_5 : decode cX2_comersOf 5 = .ok (.ifCond .eq 23, 3) := by decide +kernel
theorem dX2_comersOf_8 : decode cX2_comersOf 8 = .ok (.iload_n 2, 1) := by decide +kernel
theorem dX2_comersOf_9 : decode cX2_comersOf 9 = .ok (.invokestatic 50, 3) := by decide +kernel
theorem dX2_comersOf_12 : decode cX2_comersOf 12 = .ok (.ifCond .eq 16, 3) := by decide +kernel
theorem dX2_comersOf_15 : decode cX2_comersOf 15 = .ok (.aload_n 0, 1) := by decide +kernel
theorem dX2_comersOf_16 : decode cX2_comersOf 16 = .ok (.getfield 25, 3) := by decide +kernel
theorem dX2_comersOf_19 : decode cX2_comersOf 19 = .ok (.iload_n 1, 1) := by decide +kernel
theorem dX2_comersOf_20 : decode cX2_comersOf 20 = .ok (.iconst 4, 1) := by decide +kernel
theorem dX2_comersOf_21 : decode cX2_comersOf 21 = .ok (.imul, 1) := by decide +kernel
theorem dX2_comersOf_22 : decode cX2_comersOf 22 = .ok (.iload_n 2, 1) := by decide +kernel
theorem dX2_comersOf_23 : decode cX2_comersOf 23 = .ok (.iadd, 1) := by decide +kernel
theorem dX2_comersOf_24 : decode cX2_comersOf 24 = .ok (.iaload, 1) := by decide +kernel
theorem dX2_comersOf_25 : decode cX2_comersOf 25 = .ok (.goto 4, 3) := by decide +kernel
theorem dX2_comersOf_28 : decode cX2_comersOf 28 = .ok (.iconst 0, 1) := by decide +kernel
theorem dX2_comersOf_29 : decode cX2_comersOf 29 = .ok (.ireturn, 1) := by decide +kernel
theorem dX2_tellComers_0 : decode cX2_tellComers 0 = .ok (.aload_n 0, 1) := by decide +kernel
theorem dX2_tellComers_1 : decode cX2_tellComers 1 = .ok (.iload_n 1, 1) := by decide +kernel
theorem dX2_tellComers_2 : decode cX2_tellComers 2 = .ok (.invokevirtual 54, 3) := by decide +kernel
theorem dX2_tellComers_5 : decode cX2_tellComers 5 = .ok (.ifCond .eq 21, 3) := by decide +kernel
theorem dX2_tellComers_8 : decode cX2_tellComers 8 = .ok (.iload_n 2, 1) := by decide +kernel
theorem dX2_tellComers_9 : decode cX2_tellComers 9 = .ok (.invokestatic 50, 3) := by decide +kernel
theorem dX2_tellComers_12 : decode cX2_tellComers 12 = .ok (.ifCond .eq 14, 3) := by decide +kernel
theorem dX2_tellComers_15 : decode cX2_tellComers 15 = .ok (.aload_n 0, 1) := by decide +kernel
theorem dX2_tellComers_16 : decode cX2_tellComers 16 = .ok (.getfield 25, 3) := by decide +kernel
theorem dX2_tellComers_19 : decode cX2_tellComers 19 = .ok (.iload_n 1, 1) := by decide +kernel
theorem dX2_tellComers_20 : decode cX2_tellComers 20 = .ok (.iconst 4, 1) := by decide +kernel
theorem dX2_tellComers_21 : decode cX2_tellComers 21 = .ok (.imul, 1) := by decide +kernel
theorem dX2_tellComers_22 : decode cX2_tellComers 22 = .ok (.iload_n 2, 1) := by decide +kernel
theorem dX2_tellComers_23 : decode cX2_tellComers 23 = .ok (.iadd, 1) := by decide +kernel
theorem dX2_tellComers_24 : decode cX2_tellComers 24 = .ok (.iload_n 3, 1) := by decide +kernel
theorem dX2_tellComers_25 : decode cX2_tellComers 25 = .ok (.iastore, 1) := by decide +kernel
theorem dX2_tellComers_26 : decode cX2_tellComers 26 = .ok (.return_, 1) := by decide +kernel
theorem dX2_allComers_0 : decode cX2_allComers 0 = .ok (.iconst 0, 1) := by decide +kernel
theorem dX2_allComers_1 : decode cX2_allComers 1 = .ok (.istore_n 1, 1) := by decide +kernel
theorem dX2_allComers_2 : decode cX2_allComers 2 = .ok (.iconst 0, 1) := by decide +kernel
theorem dX2_allComers_3 : decode cX2_allComers 3 = .ok (.istore_n 2, 1) := by decide +kernel
theorem dX2_allComers_4 : decode cX2_allComers 4 = .ok (.iload_n 2, 1) := by decide +kernel
theorem dX2_allComers_5 : decode cX2_allComers 5 = .ok (.aload_n 0, 1) := by decide +kernel
theorem dX2_allComers_6 : decode cX2_allComers 6 = .ok (.getfield 9, 3) := by decide +kernel
theorem dX2_allComers_9 : decode cX2_allComers 9 = .ok (.if_icmp .ge 35, 3) := by decide +kernel
theorem dX2_allComers_12 : decode cX2_allComers 12 = .ok (.iconst 0, 1) := by decide +kernel
theorem dX2_allComers_13 : decode cX2_allComers 13 = .ok (.istore_n 3, 1) := by decide +kernel
theorem dX2_allComers_14 : decode cX2_allComers 14 = .ok (.iload_n 3, 1) := by decide +kernel
theorem dX2_allComers_15 : decode cX2_allComers 15 = .ok (.iconst 4, 1) := by decide +kernel
theorem dX2_allComers_16 : decode cX2_allComers 16 = .ok (.if_icmp .ge 22, 3) := by decide +kernel
theorem dX2_allComers_19 : decode cX2_allComers 19 = .ok (.iload_n 1, 1) := by decide +kernel
theorem dX2_allComers_20 : decode cX2_allComers 20 = .ok (.aload_n 0, 1) := by decide +kernel
theorem dX2_allComers_21 : decode cX2_allComers 21 = .ok (.getfield 25, 3) := by decide +kernel
theorem dX2_allComers_24 : decode cX2_allComers 24 = .ok (.iload_n 2, 1) := by decide +kernel
theorem dX2_allComers_25 : decode cX2_allComers 25 = .ok (.iconst 4, 1) := by decide +kernel
theorem dX2_allComers_26 : decode cX2_allComers 26 = .ok (.imul, 1) := by decide +kernel
theorem dX2_allComers_27 : decode cX2_allComers 27 = .ok (.iload_n 3, 1) := by decide +kernel
theorem dX2_allComers_28 : decode cX2_allComers 28 = .ok (.iadd, 1) := by decide +kernel
theorem dX2_allComers_29 : decode cX2_allComers 29 = .ok (.iaload, 1) := by decide +kernel
theorem dX2_allComers_30 : decode cX2_allComers 30 = .ok (.iadd, 1) := by decide +kernel
theorem dX2_allComers_31 : decode cX2_allComers 31 = .ok (.istore_n 1, 1) := by decide +kernel
theorem dX2_allComers_32 : decode cX2_allComers 32 = .ok (.iinc 3 1, 3) := by decide +kernel
theorem dX2_allComers_35 : decode cX2_allComers 35 = .ok (.goto (-21), 3) := by decide +kernel
theorem dX2_allComers_38 : decode cX2_allComers 38 = .ok (.iinc 2 1, 3) := by decide +kernel
theorem dX2_allComers_41 : decode cX2_allComers 41 = .ok (.goto (-37), 3) := by decide +kernel
theorem dX2_allComers_44 : decode cX2_allComers 44 = .ok (.iload_n 1, 1) := by decide +kernel
theorem dX2_allComers_45 : decode cX2_allComers 45 = .ok (.ireturn, 1) := by decide +kernel
theorem dX2_needOf_0 : decode cX2_needOf 0 = .ok (.aload_n 0, 1) := by decide +kernel
theorem dX2_needOf_1 : decode cX2_needOf 1 = .ok (.iload_n 1, 1) := by decide +kernel
theorem dX2_needOf_2 : decode cX2_needOf 2 = .ok (.invokevirtual 54, 3) := by decide +kernel
theorem dX2_needOf_5 : decode cX2_needOf 5 = .ok (.ifCond .eq 10, 3) := by decide +kernel
theorem dX2_needOf_8 : decode cX2_needOf 8 = .ok (.iload_n 2, 1) := by decide +kernel
theorem dX2_needOf_9 : decode cX2_needOf 9 = .ok (.invokestatic 50, 3) := by decide +kernel
theorem dX2_needOf_12 : decode cX2_needOf 12 = .ok (.ifCond .ne 5, 3) := by decide +kernel
theorem dX2_needOf_15 : decode cX2_needOf 15 = .ok (.iconst 0, 1) := by decide +kernel
theorem dX2_needOf_16 : decode cX2_needOf 16 = .ok (.ireturn, 1) := by decide +kernel
theorem dX2_needOf_17 : decode cX2_needOf 17 = .ok (.aload_n 0, 1) := by decide +kernel
theorem dX2_needOf_18 : decode cX2_needOf 18 = .ok (.getfield 28, 3) := by decide +kernel
theorem dX2_needOf_21 : decode cX2_needOf 21 = .ok (.iload_n 1, 1) := by decide +kernel
theorem dX2_needOf_22 : decode cX2_needOf 22 = .ok (.iconst 4, 1) := by decide +kernel
theorem dX2_needOf_23 : decode cX2_needOf 23 = .ok (.imul, 1) := by decide +kernel
theorem dX2_needOf_24 : decode cX2_needOf 24 = .ok (.iload_n 2, 1) := by decide +kernel
theorem dX2_needOf_25 : decode cX2_needOf 25 = .ok (.iadd, 1) := by decide +kernel
theorem dX2_needOf_26 : decode cX2_needOf 26 = .ok (.iaload, 1) := by decide +kernel
theorem dX2_needOf_27 : decode cX2_needOf 27 = .ok (.istore_n 3, 1) := by decide +kernel
theorem dX2_needOf_28 : decode cX2_needOf 28 = .ok (.iload_n 3, 1) := by decide +kernel
theorem dX2_needOf_29 : decode cX2_needOf 29 = .ok (.ifCond .ne 12, 3) := by decide +kernel
theorem dX2_needOf_32 : decode cX2_needOf 32 = .ok (.aload_n 0, 1) := by decide +kernel
theorem dX2_needOf_33 : decode cX2_needOf 33 = .ok (.getfield 18, 3) := by decide +kernel
theorem dX2_needOf_36 : decode cX2_needOf 36 = .ok (.iload_n 1, 1) := by decide +kernel
theorem dX2_needOf_37 : decode cX2_needOf 37 = .ok (.iaload, 1) := by decide +kernel
theorem dX2_needOf_38 : decode cX2_needOf 38 = .ok (.goto 4, 3) := by decide +kernel
theorem dX2_needOf_41 : decode cX2_needOf 41 = .ok (.iload_n 3, 1) := by decide +kernel
theorem dX2_needOf_42 : decode cX2_needOf 42 = .ok (.ireturn, 1) := by decide +kernel
theorem dX2_tellNeed_0 : decode cX2_tellNeed 0 = .ok (.aload_n 0, 1) := by decide +kernel
theorem dX2_tellNeed_1 : decode cX2_tellNeed 1 = .ok (.iload_n 1, 1) := by decide +kernel
theorem dX2_tellNeed_2 : decode cX2_tellNeed 2 = .ok (.invokevirtual 54, 3) := by decide +kernel
theorem dX2_tellNeed_5 : decode cX2_tellNeed 5 = .ok (.ifCond .eq 21, 3) := by decide +kernel
theorem dX2_tellNeed_8 : decode cX2_tellNeed 8 = .ok (.iload_n 2, 1) := by decide +kernel
theorem dX2_tellNeed_9 : decode cX2_tellNeed 9 = .ok (.invokestatic 50, 3) := by decide +kernel
theorem dX2_tellNeed_12 : decode cX2_tellNeed 12 = .ok (.ifCond .eq 14, 3) := by decide +kernel
theorem dX2_tellNeed_15 : decode cX2_tellNeed 15 = .ok (.aload_n 0, 1) := by decide +kernel
theorem dX2_tellNeed_16 : decode cX2_tellNeed 16 = .ok (.getfield 28, 3) := by decide +kernel
theorem dX2_tellNeed_19 : decode cX2_tellNeed 19 = .ok (.iload_n 1, 1) := by decide +kernel
theorem dX2_tellNeed_20 : decode cX2_tellNeed 20 = .ok (.iconst 4, 1) := by decide +kernel
theorem dX2_tellNeed_21 : decode cX2_tellNeed 21 = .ok (.imul, 1) := by decide +kernel
theorem dX2_tellNeed_22 : decode cX2_tellNeed 22 = .ok (.iload_n 2, 1) := by decide +kernel
theorem dX2_tellNeed_23 : decode cX2_tellNeed 23 = .ok (.iadd, 1) := by decide +kernel
theorem dX2_tellNeed_24 : decode cX2_tellNeed 24 = .ok (.iload_n 3, 1) := by decide +kernel
theorem dX2_tellNeed_25 : decode cX2_tellNeed 25 = .ok (.iastore, 1) := by decide +kernel
theorem dX2_tellNeed_26 : decode cX2_tellNeed 26 = .ok (.return_, 1) := by decide +kernel
theorem dX2_wordOf_0 : decode cX2_wordOf 0 = .ok (.aload_n 0, 1) := by decide +kernel
theorem dX2_wordOf_1 : decode cX2_wordOf 1 = .ok (.iload_n 1, 1) := by decide +kernel
theorem dX2_wordOf_2 : decode cX2_wordOf 2 = .ok (.invokevirtual 61, 3) := by decide +kernel
theorem dX2_wordOf_5 : decode cX2_wordOf 5 = .ok (.ifCond .eq 10, 3) := by decide +kernel
theorem dX2_wordOf_8 : decode cX2_wordOf 8 = .ok (.iload_n 2, 1) := by decide +kernel
theorem dX2_wordOf_9 : decode cX2_wordOf 9 = .ok (.invokestatic 50, 3) := by decide +kernel
theorem dX2_wordOf_12 : decode cX2_wordOf 12 = .ok (.ifCond .ne 5, 3) := by decide +kernel
theorem dX2_wordOf_15 : decode cX2_wordOf 15 = .ok (.iconst 0, 1) := by decide +kernel
theorem dX2_wordOf_16 : decode cX2_wordOf 16 = .ok (.ireturn, 1) := by decide +kernel
theorem dX2_wordOf_17 : decode cX2_wordOf 17 = .ok (.aload_n 0, 1) := by decide +kernel
theorem dX2_wordOf_18 : decode cX2_wordOf 18 = .ok (.getfield 31, 3) := by decide +kernel
theorem dX2_wordOf_21 : decode cX2_wordOf 21 = .ok (.iload_n 1, 1) := by decide +kernel
theorem dX2_wordOf_22 : decode cX2_wordOf 22 = .ok (.iconst 4, 1) := by decide +kernel
theorem dX2_wordOf_23 : decode cX2_wordOf 23 = .ok (.imul, 1) := by decide +kernel
theorem dX2_wordOf_24 : decode cX2_wordOf 24 = .ok (.iaload, 1) := by decide +kernel
theorem dX2_wordOf_25 : decode cX2_wordOf 25 = .ok (.istore_n 3, 1) := by decide +kernel
theorem dX2_wordOf_26 : decode cX2_wordOf 26 = .ok (.iconst 1, 1) := by decide +kernel
theorem dX2_wordOf_27 : decode cX2_wordOf 27 = .ok (.istore 4, 2) := by decide +kernel
theorem dX2_wordOf_29 : decode cX2_wordOf 29 = .ok (.iload 4, 2) := by decide +kernel
theorem dX2_wordOf_31 : decode cX2_wordOf 31 = .ok (.iload_n 2, 1) := by decide +kernel
theorem dX2_wordOf_32 : decode cX2_wordOf 32 = .ok (.if_icmp .gt 35, 3) := by decide +kernel
theorem dX2_wordOf_35 : decode cX2_wordOf 35 = .ok (.aload_n 0, 1) := by decide +kernel
theorem dX2_wordOf_36 : decode cX2_wordOf 36 = .ok (.getfield 31, 3) := by decide +kernel
theorem dX2_wordOf_39 : decode cX2_wordOf 39 = .ok (.iload_n 1, 1) := by decide +kernel
theorem dX2_wordOf_40 : decode cX2_wordOf 40 = .ok (.iconst 4, 1) := by decide +kernel
theorem dX2_wordOf_41 : decode cX2_wordOf 41 = .ok (.imul, 1) := by decide +kernel
theorem dX2_wordOf_42 : decode cX2_wordOf 42 = .ok (.iload 4, 2) := by decide +kernel
theorem dX2_wordOf_44 : decode cX2_wordOf 44 = .ok (.iadd, 1) := by decide +kernel
theorem dX2_wordOf_45 : decode cX2_wordOf 45 = .ok (.iaload, 1) := by decide +kernel
theorem dX2_wordOf_46 : decode cX2_wordOf 46 = .ok (.istore 5, 2) := by decide +kernel
theorem dX2_wordOf_48 : decode cX2_wordOf 48 = .ok (.iload 5, 2) := by decide +kernel
theorem dX2_wordOf_50 : decode cX2_wordOf 50 = .ok (.iconst (-1), 1) := by decide +kernel
theorem dX2_wordOf_51 : decode cX2_wordOf 51 = .ok (.if_icmp .ne 7, 3) := by decide +kernel
theorem dX2_wordOf_54 : decode cX2_wordOf 54 = .ok (.iload_n 3, 1) := by decide +kernel
theorem dX2_wordOf_55 : decode cX2_wordOf 55 = .ok (.goto 5, 3) := by decide +kernel
theorem dX2_wordOf_58 : decode cX2_wordOf 58 = .ok (.iload 5, 2) := by decide +kernel
theorem dX2_wordOf_60 : decode cX2_wordOf 60 = .ok (.istore_n 3, 1) := by decide +kernel
theorem dX2_wordOf_61 : decode cX2_wordOf 61 = .ok (.iinc 4 1, 3) := by decide +kernel
theorem dX2_wordOf_64 : decode cX2_wordOf 64 = .ok (.goto (-35), 3) := by decide +kernel
theorem dX2_wordOf_67 : decode cX2_wordOf 67 = .ok (.iload_n 3, 1) := by decide +kernel
theorem dX2_wordOf_68 : decode cX2_wordOf 68 = .ok (.ireturn, 1) := by decide +kernel
theorem dX2_tellWord_0 : decode cX2_tellWord 0 = .ok (.aload_n 0, 1) := by decide +kernel
theorem dX2_tellWord_1 : decode cX2_tellWord 1 = .ok (.iload_n 1, 1) := by decide +kernel
theorem dX2_tellWord_2 : decode cX2_tellWord 2 = .ok (.invokevirtual 61, 3) := by decide +kernel
theorem dX2_tellWord_5 : decode cX2_tellWord 5 = .ok (.ifCond .eq 21, 3) := by decide +kernel
theorem dX2_tellWord_8 : decode cX2_tellWord 8 = .ok (.iload_n 2, 1) := by decide +kernel
theorem dX2_tellWord_9 : decode cX2_tellWord 9 = .ok (.invokestatic 50, 3) := by decide +kernel
theorem dX2_tellWord_12 : decode cX2_tellWord 12 = .ok (.ifCond .eq 14, 3) := by decide +kernel
theorem dX2_tellWord_15 : decode cX2_tellWord 15 = .ok (.aload_n 0, 1) := by decide +kernel
theorem dX2_tellWord_16 : decode cX2_tellWord 16 = .ok (.getfield 31, 3) := by decide +kernel
theorem dX2_tellWord_19 : decode cX2_tellWord 19 = .ok (.iload_n 1, 1) := by decide +kernel
theorem dX2_tellWord_20 : decode cX2_tellWord 20 = .ok (.iconst 4, 1) := by decide +kernel
theorem dX2_tellWord_21 : decode cX2_tellWord 21 = .ok (.imul, 1) := by decide +kernel
theorem dX2_tellWord_22 : decode cX2_tellWord 22 = .ok (.iload_n 2, 1) := by decide +kernel
theorem dX2_tellWord_23 : decode cX2_tellWord 23 = .ok (.iadd, 1) := by decide +kernel
theorem dX2_tellWord_24 : decode cX2_tellWord 24 = .ok (.iload_n 3, 1) := by decide +kernel
theorem dX2_tellWord_25 : decode cX2_tellWord 25 = .ok (.iastore, 1) := by decide +kernel
theorem dX2_tellWord_26 : decode cX2_tellWord 26 = .ok (.return_, 1) := by decide +kernel
theorem dX2_tellWordAlone_0 : decode cX2_tellWordAlone 0 = .ok (.iload_n 1, 1) := by decide +kernel
theorem dX2_tellWordAlone_1 : decode cX2_tellWordAlone 1 = .ok (.ifCond .lt 11, 3) := by decide +kernel
theorem dX2_tellWordAlone_4 : decode cX2_tellWordAlone 4 = .ok (.iload_n 1, 1) := by decide +kernel
theorem dX2_tellWordAlone_5 : decode cX2_tellWordAlone 5 = .ok (.aload_n 0, 1) := by decide +kernel
theorem dX2_tellWordAlone_6 : decode cX2_tellWordAlone 6 = .ok (.getfield 15, 3) := by decide +kernel
theorem dX2_tellWordAlone_9 : decode cX2_tellWordAlone 9 = .ok (.if_icmp .lt 4, 3) := by decide +kernel
theorem dX2_tellWordAlone_12 : decode cX2_tellWordAlone 12 = .ok (.return_, 1) := by decide +kernel
theorem dX2_tellWordAlone_13 : decode cX2_tellWordAlone 13 = .ok (.aload_n 0, 1) := by decide +kernel
theorem dX2_tellWordAlone_14 : decode cX2_tellWordAlone 14 = .ok (.getfield 31, 3) := by decide +kernel
theorem dX2_tellWordAlone_17 : decode cX2_tellWordAlone 17 = .ok (.iload_n 1, 1) := by decide +kernel
theorem dX2_tellWordAlone_18 : decode cX2_tellWordAlone 18 = .ok (.iconst 4, 1) := by decide +kernel
theorem dX2_tellWordAlone_19 : decode cX2_tellWordAlone 19 = .ok (.imul, 1) := by decide +kernel
theorem dX2_tellWordAlone_20 : decode cX2_tellWordAlone 20 = .ok (.iload_n 2, 1) := by decide +kernel
theorem dX2_tellWordAlone_21 : decode cX2_tellWordAlone 21 = .ok (.iastore, 1) := by decide +kernel
theorem dX2_tellWordAlone_22 : decode cX2_tellWordAlone 22 = .ok (.iconst 1, 1) := by decide +kernel
theorem dX2_tellWordAlone_23 : decode cX2_tellWordAlone 23 = .ok (.istore_n 3, 1) := by decide +kernel
theorem dX2_tellWordAlone_24 : decode cX2_tellWordAlone 24 = .ok (.iload_n 3, 1) := by decide +kernel
theorem dX2_tellWordAlone_25 : decode cX2_tellWordAlone 25 = .ok (.iconst 4, 1) := by decide +kernel
theorem dX2_tellWordAlone_26 : decode cX2_tellWordAlone 26 = .ok (.if_icmp .ge 20, 3) := by decide +kernel
theorem dX2_tellWordAlone_29 : decode cX2_tellWordAlone 29 = .ok (.aload_n 0, 1) := by decide +kernel
theorem dX2_tellWordAlone_30 : decode cX2_tellWordAlone 30 = .ok (.getfield 31, 3) := by decide +kernel
theorem dX2_tellWordAlone_33 : decode cX2_tellWordAlone 33 = .ok (.iload_n 1, 1) := by decide +kernel
theorem dX2_tellWordAlone_34 : decode cX2_tellWordAlone 34 = .ok (.iconst 4, 1) := by decide +kernel
theorem dX2_tellWordAlone_35 : decode cX2_tellWordAlone 35 = .ok (.imul, 1) := by decide +kernel
theorem dX2_tellWordAlone_36 : decode cX2_tellWordAlone 36 = .ok (.iload_n 3, 1) := by decide +kernel
theorem dX2_tellWordAlone_37 : decode cX2_tellWordAlone 37 = .ok (.iadd, 1) := by decide +kernel
theorem dX2_tellWordAlone_38 : decode cX2_tellWordAlone 38 = .ok (.iconst (-1), 1) := by decide +kernel
theorem dX2_tellWordAlone_39 : decode cX2_tellWordAlone 39 = .ok (.iastore, 1) := by decide +kernel
theorem dX2_tellWordAlone_40 : decode cX2_tellWordAlone 40 = .ok (.iinc 3 1, 3) := by decide +kernel
theorem dX2_tellWordAlone_43 : decode cX2_tellWordAlone 43 = .ok (.goto (-19), 3) := by decide +kernel
theorem dX2_tellWordAlone_46 : decode cX2_tellWordAlone 46 = .ok (.return_, 1) := by decide +kernel
theorem dX2_changes_0 : decode cX2_changes 0 = .ok (.iconst 0, 1) := by decide +kernel
theorem dX2_changes_1 : decode cX2_changes 1 = .ok (.istore_n 1, 1) := by decide +kernel
theorem dX2_changes_2 : decode cX2_changes 2 = .ok (.iconst 0, 1) := by decide +kernel
theorem dX2_changes_3 : decode cX2_changes 3 = .ok (.istore_n 2, 1) := by decide +kernel
theorem dX2_changes_4 : decode cX2_changes 4 = .ok (.iload_n 2, 1) := by decide +kernel
theorem dX2_changes_5 : decode cX2_changes 5 = .ok (.aload_n 0, 1) := by decide +kernel
theorem dX2_changes_6 : decode cX2_changes 6 = .ok (.getfield 15, 3) := by decide +kernel
theorem dX2_changes_9 : decode cX2_changes 9 = .ok (.if_icmp .ge 44, 3) := by decide +kernel
theorem dX2_changes_12 : decode cX2_changes 12 = .ok (.iconst 1, 1) := by decide +kernel
theorem dX2_changes_13 : decode cX2_changes 13 = .ok (.istore_n 3, 1) := by decide +kernel
theorem dX2_changes_14 : decode cX2_changes 14 = .ok (.iload_n 3, 1) := by decide +kernel
theorem dX2_changes_15 : decode cX2_changes 15 = .ok (.iconst 4, 1) := by decide +kernel
theorem dX2_changes_16 : decode cX2_changes 16 = .ok (.if_icmp .ge 31, 3) := by decide +kernel
theorem dX2_changes_19 : decode cX2_changes 19 = .ok (.iload_n 1, 1) := by decide +kernel
theorem dX2_changes_20 : decode cX2_changes 20 = .ok (.aload_n 0, 1) := by decide +kernel
theorem dX2_changes_21 : decode cX2_changes 21 = .ok (.getfield 31, 3) := by decide +kernel
theorem dX2_changes_24 : decode cX2_changes 24 = .ok (.iload_n 2, 1) := by decide +kernel
theorem dX2_changes_25 : decode cX2_changes 25 = .ok (.iconst 4, 1) := by decide +kernel
theorem dX2_changes_26 : decode cX2_changes 26 = .ok (.imul, 1) := by decide +kernel
theorem dX2_changes_27 : decode cX2_changes 27 = .ok (.iload_n 3, 1) := by decide +kernel
theorem dX2_changes_28 : decode cX2_changes 28 = .ok (.iadd, 1) := by decide +kernel
theorem dX2_changes_29 : decode cX2_changes 29 = .ok (.iaload, 1) := by decide +kernel
theorem dX2_changes_30 : decode cX2_changes 30 = .ok (.iconst (-1), 1) := by decide +kernel
theorem dX2_changes_31 : decode cX2_changes 31 = .ok (.if_icmp .ne 7, 3) := by decide +kernel
theorem dX2_changes_34 : decode cX2_changes 34 = .ok (.iconst 0, 1) := by decide +kernel
theorem dX2_changes_35 : decode cX2_changes 35 = .ok (.goto 4, 3) := by decide +kernel
theorem dX2_changes_38 : decode cX2_changes 38 = .ok (.iconst 1, 1) := by decide +kernel
theorem dX2_changes_39 : decode cX2_changes 39 = .ok (.iadd, 1) := by decide +kernel
theorem dX2_changes_40 : decode cX2_changes 40 = .ok (.istore_n 1, 1) := by decide +kernel
theorem dX2_changes_41 : decode cX2_changes 41 = .ok (.iinc 3 1, 3) := by decide +kernel
theorem dX2_changes_44 : decode cX2_changes 44 = .ok (.goto (-30), 3) := by decide +kernel
theorem dX2_changes_47 : decode cX2_changes 47 = .ok (.iinc 2 1, 3) := by decide +kernel
theorem dX2_changes_50 : decode cX2_changes 50 = .ok (.goto (-46), 3) := by decide +kernel
theorem dX2_changes_53 : decode cX2_changes 53 = .ok (.iload_n 1, 1) := by decide +kernel
theorem dX2_changes_54 : decode cX2_changes 54 = .ok (.ireturn, 1) := by decide +kernel
theorem dX2_narrowWords_0 : decode cX2_narrowWords 0 = .ok (.iconst 0, 1) := by decide +kernel
theorem dX2_narrowWords_1 : decode cX2_narrowWords 1 = .ok (.istore_n 1, 1) := by decide +kernel
theorem dX2_narrowWords_2 : decode cX2_narrowWords 2 = .ok (.iload_n 1, 1) := by decide +kernel
theorem dX2_narrowWords_3 : decode cX2_narrowWords 3 = .ok (.aload_n 0, 1) := by decide +kernel
theorem dX2_narrowWords_4 : decode cX2_narrowWords 4 = .ok (.getfield 15, 3) := by decide +kernel
theorem dX2_narrowWords_7 : decode cX2_narrowWords 7 = .ok (.iconst 4, 1) := by decide +kernel
theorem dX2_narrowWords_8 : decode cX2_narrowWords 8 = .ok (.imul, 1) := by decide +kernel
theorem dX2_narrowWords_9 : decode cX2_narrowWords 9 = .ok (.if_icmp .ge 39, 3) := by decide +kernel
theorem dX2_narrowWords_12 : decode cX2_narrowWords 12 = .ok (.aload_n 0, 1) := by decide +kernel
theorem dX2_narrowWords_13 : decode cX2_narrowWords 13 = .ok (.getfield 31, 3) := by decide +kernel
theorem dX2_narrowWords_16 : decode cX2_narrowWords 16 = .ok (.iload_n 1, 1) := by decide +kernel
theorem dX2_narrowWords_17 : decode cX2_narrowWords 17 = .ok (.iaload, 1) := by decide +kernel
theorem dX2_narrowWords_18 : decode cX2_narrowWords 18 = .ok (.iconst (-1), 1) := by decide +kernel
theorem dX2_narrowWords_19 : decode cX2_narrowWords 19 = .ok (.if_icmp .eq 23, 3) := by decide +kernel
theorem dX2_narrowWords_22 : decode cX2_narrowWords 22 = .ok (.aload_n 0, 1) := by decide +kernel
theorem dX2_narrowWords_23 : decode cX2_narrowWords 23 = .ok (.getfield 31, 3) := by decide +kernel
theorem dX2_narrowWords_26 : decode cX2_narrowWords 26 = .ok (.iload_n 1, 1) := by decide +kernel
theorem dX2_narrowWords_27 : decode cX2_narrowWords 27 = .ok (.aload_n 0, 1) := by decide +kernel
theorem dX2_narrowWords_28 : decode cX2_narrowWords 28 = .ok (.getfield 31, 3) := by decide +kernel
theorem dX2_narrowWords_31 : decode cX2_narrowWords 31 = .ok (.iload_n 1, 1) := by decide +kernel
theorem dX2_narrowWords_32 : decode cX2_narrowWords 32 = .ok (.iaload, 1) := by decide +kernel
theorem dX2_narrowWords_33 : decode cX2_narrowWords 33 = .ok (.aload_n 0, 1) := by decide +kernel
theorem dX2_narrowWords_34 : decode cX2_narrowWords 34 = .ok (.getfield 31, 3) := by decide +kernel
theorem dX2_narrowWords_37 : decode cX2_narrowWords 37 = .ok (.iload_n 1, 1) := by decide +kernel
theorem dX2_narrowWords_38 : decode cX2_narrowWords 38 = .ok (.iaload, 1) := by decide +kernel
theorem dX2_narrowWords_39 : decode cX2_narrowWords 39 = .ok (.ineg, 1) := by decide +kernel
theorem dX2_narrowWords_40 : decode cX2_narrowWords 40 = .ok (.iand, 1) := by decide +kernel
theorem dX2_narrowWords_41 : decode cX2_narrowWords 41 = .ok (.iastore, 1) := by decide +kernel
theorem dX2_narrowWords_42 : decode cX2_narrowWords 42 = .ok (.iinc 1 1, 3) := by decide +kernel
theorem dX2_narrowWords_45 : decode cX2_narrowWords 45 = .ok (.goto (-43), 3) := by decide +kernel
theorem dX2_narrowWords_48 : decode cX2_narrowWords 48 = .ok (.return_, 1) := by decide +kernel
theorem dX3_clear_0 : decode cX3_clear 0 = .ok (.aload_n 0, 1) := by decide +kernel
theorem dX3_clear_1 : decode cX3_clear 1 = .ok (.iconst 0, 1) := by decide +kernel
theorem dX3_clear_2 : decode cX3_clear 2 = .ok (.putfield 19, 3) := by decide +kernel
theorem dX3_clear_5 : decode cX3_clear 5 = .ok (.aload_n 0, 1) := by decide +kernel
theorem dX3_clear_6 : decode cX3_clear 6 = .ok (.iconst 0, 1) := by decide +kernel
theorem dX3_clear_7 : decode cX3_clear 7 = .ok (.putfield 22, 3) := by decide +kernel
theorem dX3_clear_10 : decode cX3_clear 10 = .ok (.aload_n 0, 1) := by decide +kernel
theorem dX3_clear_11 : decode cX3_clear 11 = .ok (.iconst 0, 1) := by decide +kernel
theorem dX3_clear_12 : decode cX3_clear 12 = .ok (.putfield 25, 3) := by decide +kernel
theorem dX3_clear_15 : decode cX3_clear 15 = .ok (.aload_n 0, 1) := by decide +kernel
theorem dX3_clear_16 : decode cX3_clear 16 = .ok (.iconst 0, 1) := by decide +kernel
theorem dX3_clear_17 : decode cX3_clear 17 = .ok (.putfield 28, 3) := by decide +kernel
theorem dX3_clear_20 : decode cX3_clear 20 = .ok (.aload_n 0, 1) := by decide +kernel
theorem dX3_clear_21 : decode cX3_clear 21 = .ok (.iconst 0, 1) := by decide +kernel
theorem dX3_clear_22 : decode cX3_clear 22 = .ok (.putfield 31, 3) := by decide +kernel
theorem dX3_clear_25 : decode cX3_clear 25 = .ok (.aload_n 0, 1) := by decide +kernel
theorem dX3_clear_26 : decode cX3_clear 26 = .ok (.iconst 0, 1) := by decide +kernel
theorem dX3_clear_27 : decode cX3_clear 27 = .ok (.putfield 34, 3) := by decide +kernel
theorem dX3_clear_30 : decode cX3_clear 30 = .ok (.aload_n 0, 1) := by decide +kernel
theorem dX3_clear_31 : decode cX3_clear 31 = .ok (.iconst (-1), 1) := by decide +kernel
theorem dX3_clear_32 : decode cX3_clear 32 = .ok (.putfield 7, 3) := by decide +kernel
theorem dX3_clear_35 : decode cX3_clear 35 = .ok (.aload_n 0, 1) := by decide +kernel
theorem dX3_clear_36 : decode cX3_clear 36 = .ok (.iconst (-1), 1) := by decide +kernel
theorem dX3_clear_37 : decode cX3_clear 37 = .ok (.putfield 13, 3) := by decide +kernel
theorem dX3_clear_40 : decode cX3_clear 40 = .ok (.aload_n 0, 1) := by decide +kernel
theorem dX3_clear_41 : decode cX3_clear 41 = .ok (.iconst 0, 1) := by decide +kernel
theorem dX3_clear_42 : decode cX3_clear 42 = .ok (.putfield 38, 3) := by decide +kernel
theorem dX3_clear_45 : decode cX3_clear 45 = .ok (.aload_n 0, 1) := by decide +kernel
theorem dX3_clear_46 : decode cX3_clear 46 = .ok (.iconst 0, 1) := by decide +kernel
theorem dX3_clear_47 : decode cX3_clear 47 = .ok (.putfield 41, 3) := by decide +kernel
theorem dX3_clear_50 : decode cX3_clear 50 = .ok (.aload_n 0, 1) := by decide +kernel
theorem dX3_clear_51 : decode cX3_clear 51 = .ok (.iconst 0, 1) := by decide +kernel
theorem dX3_clear_52 : decode cX3_clear 52 = .ok (.putfield 44, 3) := by decide +kernel
theorem dX3_clear_55 : decode cX3_clear 55 = .ok (.aload_n 0, 1) := by decide +kernel
theorem dX3_clear_56 : decode cX3_clear 56 = .ok (.iconst (-1), 1) := by decide +kernel
theorem dX3_clear_57 : decode cX3_clear 57 = .ok (.putfield 16, 3) := by decide +kernel
theorem dX3_clear_60 : decode cX3_clear 60 = .ok (.return_, 1) := by decide +kernel
theorem dX3_join_0 : decode cX3_join 0 = .ok (.aload_n 0, 1) := by decide +kernel
theorem dX3_join_1 : decode cX3_join 1 = .ok (.getfield 16, 3) := by decide +kernel
theorem dX3_join_4 : decode cX3_join 4 = .ok (.ifCond .lt 23, 3) := by decide +kernel
theorem dX3_join_7 : decode cX3_join 7 = .ok (.aload_n 0, 1) := by decide +kernel
theorem dX3_join_8 : decode cX3_join 8 = .ok (.getfield 19, 3) := by decide +kernel
theorem dX3_join_11 : decode cX3_join 11 = .ok (.ifCond .le 16, 3) := by decide +kernel
theorem dX3_join_14 : decode cX3_join 14 = .ok (.aload_n 1, 1) := by decide +kernel
theorem dX3_join_15 : decode cX3_join 15 = .ok (.getfield 47, 3) := by decide +kernel
theorem dX3_join_18 : decode cX3_join 18 = .ok (.aload_n 0, 1) := by decide +kernel
theorem dX3_join_19 : decode cX3_join 19 = .ok (.getfield 16, 3) := by decide +kernel
theorem dX3_join_22 : decode cX3_join 22 = .ok (.iload_n 2, 1) := by decide +kernel
theorem dX3_join_23 : decode cX3_join 23 = .ok (.iastore, 1) := by decide +kernel
theorem dX3_join_24 : decode cX3_join 24 = .ok (.goto 8, 3) := by decide +kernel
theorem dX3_join_27 : decode cX3_join 27 = .ok (.aload_n 0, 1) := by decide +kernel
theorem dX3_join_28 : decode cX3_join 28 = .ok (.iload_n 2, 1) := by decide +kernel
theorem dX3_join_29 : decode cX3_join 29 = .ok (.putfield 13, 3) := by decide +kernel
theorem dX3_join_32 : decode cX3_join 32 = .ok (.aload_n 0, 1) := by decide +kernel
theorem dX3_join_33 : decode cX3_join 33 = .ok (.iload_n 2, 1) := by decide +kernel
theorem dX3_join_34 : decode cX3_join 34 = .ok (.putfield 16, 3) := by decide +kernel
theorem dX3_join_37 : decode cX3_join 37 = .ok (.aload_n 0, 1) := by decide +kernel
theorem dX3_join_38 : decode cX3_join 38 = .ok (.dup, 1) := by decide +kernel
theorem dX3_join_39 : decode cX3_join 39 = .ok (.getfield 19, 3) := by decide +kernel
theorem dX3_join_42 : decode cX3_join 42 = .ok (.iconst 1, 1) := by decide +kernel
theorem dX3_join_43 : decode cX3_join 43 = .ok (.iadd, 1) := by decide +kernel
theorem dX3_join_44 : decode cX3_join 44 = .ok (.putfield 19, 3) := by decide +kernel
theorem dX3_join_47 : decode cX3_join 47 = .ok (.aload_n 0, 1) := by decide +kernel
theorem dX3_join_48 : decode cX3_join 48 = .ok (.dup, 1) := by decide +kernel
theorem dX3_join_49 : decode cX3_join 49 = .ok (.getfield 22, 3) := by decide +kernel
theorem dX3_join_52 : decode cX3_join 52 = .ok (.aload_n 1, 1) := by decide +kernel
theorem dX3_join_53 : decode cX3_join 53 = .ok (.getfield 53, 3) := by decide +kernel
theorem dX3_join_56 : decode cX3_join 56 = .ok (.iload_n 2, 1) := by decide +kernel
theorem dX3_join_57 : decode cX3_join 57 = .ok (.iaload, 1) := by decide +kernel
theorem dX3_join_58 : decode cX3_join 58 = .ok (.iadd, 1) := by decide +kernel
theorem dX3_join_59 : decode cX3_join 59 = .ok (.putfield 22, 3) := by decide +kernel
theorem dX3_join_62 : decode cX3_join 62 = .ok (.return_, 1) := by decide +kernel
theorem dX3_serve_0 : decode cX3_serve 0 = .ok (.aload_n 0, 1) := by decide +kernel
theorem dX3_serve_1 : decode cX3_serve 1 = .ok (.getfield 13, 3) := by decide +kernel
theorem dX3_serve_4 : decode cX3_serve 4 = .ok (.ifCond .lt 44, 3) := by decide +kernel
theorem dX3_serve_7 : decode cX3_serve 7 = .ok (.aload_n 0, 1) := by decide +kernel
theorem dX3_serve_8 : decode cX3_serve 8 = .ok (.dup, 1) := by decide +kernel
theorem dX3_serve_9 : decode cX3_serve 9 = .ok (.getfield 22, 3) := by decide +kernel
theorem dX3_serve_12 : decode cX3_serve 12 = .ok (.aload_n 1, 1) := by decide +kernel
theorem dX3_serve_13 : decode cX3_serve 13 = .ok (.getfield 53, 3) := by decide +kernel
theorem dX3_serve_16 : decode cX3_serve 16 = .ok (.aload_n 0, 1) := by decide +kernel
theorem dX3_serve_17 : decode cX3_serve 17 = .ok (.getfield 13, 3) := by decide +kernel
theorem dX3_serve_20 : decode cX3_serve 20 = .ok (.iaload, 1) := by decide +kernel
theorem dX3_serve_21 : decode cX3_serve 21 = .ok (.isub, 1) := by decide +kernel
theorem dX3_serve_22 : decode cX3_serve 22 = .ok (.putfield 22, 3) := by decide +kernel
theorem dX3_serve_25 : decode cX3_serve 25 = .ok (.aload_n 0, 1) := by decide +kernel
theorem dX3_serve_26 : decode cX3_serve 26 = .ok (.aload_n 1, 1) := by decide +kernel
theorem dX3_serve_27 : decode cX3_serve 27 = .ok (.getfield 56, 3) := by decide +kernel
theorem dX3_serve_30 : decode cX3_serve 30 = .ok (.aload_n 0, 1) := by decide +kernel
theorem dX3_serve_31 : decode cX3_serve 31 = .ok (.getfield 13, 3) := by decide +kernel
theorem dX3_serve_34 : decode cX3_serve 34 = .ok (.iaload, 1) := by decide +kernel
theorem dX3_serve_35 : decode cX3_serve 35 = .ok (.putfield 7, 3) := by decide +kernel
theorem dX3_serve_38 : decode cX3_serve 38 = .ok (.aload_n 0, 1) := by decide +kernel
theorem dX3_serve_39 : decode cX3_serve 39 = .ok (.iload_n 2, 1) := by decide +kernel
theorem dX3_serve_40 : decode cX3_serve 40 = .ok (.putfield 25, 3) := by decide +kernel
theorem dX3_serve_43 : decode cX3_serve 43 = .ok (.aload_n 0, 1) := by decide +kernel
theorem dX3_serve_44 : decode cX3_serve 44 = .ok (.iconst 1, 1) := by decide +kernel
theorem dX3_serve_45 : decode cX3_serve 45 = .ok (.putfield 34, 3) := by decide +kernel
theorem dX3_serve_48 : decode cX3_serve 48 = .ok (.return_, 1) := by decide +kernel
theorem dX3_leave_0 : decode cX3_leave 0 = .ok (.aload_n 0, 1) := by decide +kernel
theorem dX3_leave_1 : decode cX3_leave 1 = .ok (.getfield 13, 3) := by decide +kernel
theorem dX3_leave_4 : decode cX3_leave 4 = .ok (.ifCond .lt 41, 3) := by decide +kernel
theorem dX3_leave_7 : decode cX3_leave 7 = .ok (.aload_n 0, 1) := by decide +kernel
theorem dX3_leave_8 : decode cX3_leave 8 = .ok (.aload_n 1, 1) := by decide +kernel
theorem dX3_leave_9 : decode cX3_leave 9 = .ok (.getfield 47, 3) := by decide +kernel
theorem dX3_leave_12 : decode cX3_leave 12 = .ok (.aload_n 0, 1) := by decide +kernel
theorem dX3_leave_13 : decode cX3_leave 13 = .ok (.getfield 13, 3) := by decide +kernel
theorem dX3_leave_16 : decode cX3_leave 16 = .ok (.iaload, 1) := by decide +kernel
theorem dX3_leave_17 : decode cX3_leave 17 = .ok (.putfield 13, 3) := by decide +kernel
theorem dX3_leave_20 : decode cX3_leave 20 = .ok (.aload_n 0, 1) := by decide +kernel
theorem dX3_leave_21 : decode cX3_leave 21 = .ok (.dup, 1) := by decide +kernel
theorem dX3_leave_22 : decode cX3_leave 22 = .ok (.getfield 19, 3) := by decide +kernel
theorem dX3_leave_25 : decode cX3_leave 25 = .ok (.iconst 1, 1) := by decide +kernel
theorem dX3_leave_26 : decode cX3_leave 26 = .ok (.isub, 1) := by decide +kernel
theorem dX3_leave_27 : decode cX3_leave 27 = .ok (.putfield 19, 3) := by decide +kernel
theorem dX3_leave_30 : decode cX3_leave 30 = .ok (.aload_n 0, 1) := by decide +kernel
theorem dX3_leave_31 : decode cX3_leave 31 = .ok (.dup, 1) := by decide +kernel
theorem dX3_leave_32 : decode cX3_leave 32 = .ok (.getfield 31, 3) := by decide +kernel
theorem dX3_leave_35 : decode cX3_leave 35 = .ok (.iconst 1, 1) := by decide +kernel
theorem dX3_leave_36 : decode cX3_leave 36 = .ok (.iadd, 1) := by decide +kernel
theorem dX3_leave_37 : decode cX3_leave 37 = .ok (.putfield 31, 3) := by decide +kernel
theorem dX3_leave_40 : decode cX3_leave 40 = .ok (.aload_n 0, 1) := by decide +kernel
theorem dX3_leave_41 : decode cX3_leave 41 = .ok (.iconst 0, 1) := by decide +kernel
theorem dX3_leave_42 : decode cX3_leave 42 = .ok (.putfield 34, 3) := by decide +kernel
theorem dX3_leave_45 : decode cX3_leave 45 = .ok (.return_, 1) := by decide +kernel
theorem dX3_loadAt_0 : decode cX3_loadAt 0 = .ok (.aload_n 0, 1) := by decide +kernel
theorem dX3_loadAt_1 : decode cX3_loadAt 1 = .ok (.getfield 34, 3) := by decide +kernel
theorem dX3_loadAt_4 : decode cX3_loadAt 4 = .ok (.ifCond .eq 25, 3) := by decide +kernel
theorem dX3_loadAt_7 : decode cX3_loadAt 7 = .ok (.aload_n 0, 1) := by decide +kernel
theorem dX3_loadAt_8 : decode cX3_loadAt 8 = .ok (.getfield 25, 3) := by decide +kernel
theorem dX3_loadAt_11 : decode cX3_loadAt 11 = .ok (.iload_n 1, 1) := by decide +kernel
theorem dX3_loadAt_12 : decode cX3_loadAt 12 = .ok (.if_icmp .le 17, 3) := by decide +kernel
theorem dX3_loadAt_15 : decode cX3_loadAt 15 = .ok (.aload_n 0, 1) := by decide +kernel
theorem dX3_loadAt_16 : decode cX3_loadAt 16 = .ok (.getfield 22, 3) := by decide +kernel
theorem dX3_loadAt_19 : decode cX3_loadAt 19 = .ok (.aload_n 0, 1) := by decide +kernel
theorem dX3_loadAt_20 : decode cX3_loadAt 20 = .ok (.getfield 25, 3) := by decide +kernel
theorem dX3_loadAt_23 : decode cX3_loadAt 23 = .ok (.iadd, 1) := by decide +kernel
theorem dX3_loadAt_24 : decode cX3_loadAt 24 = .ok (.iload_n 1, 1) := by decide +kernel
theorem dX3_loadAt_25 : decode cX3_loadAt 25 = .ok (.isub, 1) := by decide +kernel
theorem dX3_loadAt_26 : decode cX3_loadAt 26 = .ok (.goto 7, 3) := by decide +kernel
theorem dX3_loadAt_29 : decode cX3_loadAt 29 = .ok (.aload_n 0, 1) := by decide +kernel
theorem dX3_loadAt_30 : decode cX3_loadAt 30 = .ok (.getfield 22, 3) := by decide +kernel
theorem dX3_loadAt_33 : decode cX3_loadAt 33 = .ok (.ireturn, 1) := by decide +kernel
theorem dX4_wordOfLeastCost_0 : decode cX4_wordOfLeastCost 0 = .ok (.aload_n 1, 1) := by decide +kernel
theorem dX4_wordOfLeastCost_1 : decode cX4_wordOfLeastCost 1 = .ok (.aload_n 2, 1) := by decide +kernel
theorem dX4_wordOfLeastCost_2 : decode cX4_wordOfLeastCost 2 = .ok (.invokevirtual 18, 3) := by decide +kernel
theorem dX4_wordOfLeastCost_5 : decode cX4_wordOfLeastCost 5 = .ok (.aload_n 1, 1) := by decide +kernel
theorem dX4_wordOfLeastCost_6 : decode cX4_wordOfLeastCost 6 = .ok (.invokevirtual 24, 3) := by decide +kernel
theorem dX4_wordOfLeastCost_9 : decode cX4_wordOfLeastCost 9 = .ok (.istore_n 3, 1) := by decide +kernel
theorem dX4_wordOfLeastCost_10 : decode cX4_wordOfLeastCost 10 = .ok (.bipush (-9), 2) := by decide +kernel
theorem dX4_wordOfLeastCost_12 : decode cX4_wordOfLeastCost 12 = .ok (.istore 4, 2) := by decide +kernel
theorem dX4_wordOfLeastCost_14 : decode cX4_wordOfLeastCost 14 = .ok (.iconst 0, 1) := by decide +kernel
theorem dX4_wordOfLeastCost_15 : decode cX4_wordOfLeastCost 15 = .ok (.istore 5, 2) := by decide +kernel
theorem dX4_wordOfLeastCost_17 : decode cX4_wordOfLeastCost 17 = .ok (.iload 5, 2) := by decide +kernel
theorem dX4_wordOfLeastCost_19 : decode cX4_wordOfLeastCost 19 = .ok (.aload_n 2, 1) := by decide +kernel
theorem dX4_wordOfLeastCost_20 : decode cX4_wordOfLeastCost 20 = .ok (.getfield 28, 3) := by decide +kernel
theorem dX4_wordOfLeastCost_23 : decode cX4_wordOfLeastCost 23 = .ok (.if_icmp .ge 77, 3) := by decide +kernel
theorem dX4_wordOfLeastCost_26 : decode cX4_wordOfLeastCost 26 = .ok (.iconst 0, 1) := by decide +kernel
theorem dX4_wordOfLeastCost_27 : decode cX4_wordOfLeastCost 27 = .ok (.istore 6, 2) := by decide +kernel
theorem dX4_wordOfLeastCost_29 : decode cX4_wordOfLeastCost 29 = .ok (.iload 6, 2) := by decide +kernel
theorem dX4_wordOfLeastCost_31 : decode cX4_wordOfLeastCost 31 = .ok (.bipush 31, 2) := by decide +kernel
theorem dX4_wordOfLeastCost_33 : decode cX4_wordOfLeastCost 33 = .ok (.if_icmp .gt 61, 3) := by decide +kernel
theorem dX4_wordOfLeastCost_36 : decode cX4_wordOfLeastCost 36 = .ok (.aload_n 0, 1) := by decide +kernel
theorem dX4_wordOfLeastCost_37 : decode cX4_wordOfLeastCost 37 = .ok (.getfield 12, 3) := by decide +kernel
theorem dX4_wordOfLeastCost_40 : decode cX4_wordOfLeastCost 40 = .ok (.aload_n 2, 1) := by decide +kernel
theorem dX4_wordOfLeastCost_41 : decode cX4_wordOfLeastCost 41 = .ok (.invokevirtual 32, 3) := by decide +kernel
theorem dX4_wordOfLeastCost_44 : decode cX4_wordOfLeastCost 44 = .ok (.aload_n 0, 1) := by decide +kernel
theorem dX4_wordOfLeastCost_45 : decode cX4_wordOfLeastCost 45 = .ok (.getfield 12, 3) := by decide +kernel
theorem dX4_wordOfLeastCost_48 : decode cX4_wordOfLeastCost 48 = .ok (.iload 5, 2) := by decide +kernel
theorem dX4_wordOfLeastCost_50 : decode cX4_wordOfLeastCost 50 = .ok (.iload 6, 2) := by decide +kernel
theorem dX4_wordOfLeastCost_52 : decode cX4_wordOfLeastCost 52 = .ok (.invokevirtual 35, 3) := by decide +kernel
theorem dX4_wordOfLeastCost_55 : decode cX4_wordOfLeastCost 55 = .ok (.aload_n 1, 1) := by decide +kernel
theorem dX4_wordOfLeastCost_56 : decode cX4_wordOfLeastCost 56 = .ok (.aload_n 0, 1) := by decide +kernel
theorem dX4_wordOfLeastCost_57 : decode cX4_wordOfLeastCost 57 = .ok (.getfield 12, 3) := by decide +kernel
theorem dX4_wordOfLeastCost_60 : decode cX4_wordOfLeastCost 60 = .ok (.invokevirtual 18, 3) := by decide +kernel
theorem dX4_wordOfLeastCost_63 : decode cX4_wordOfLeastCost 63 = .ok (.aload_n 1, 1) := by decide +kernel
theorem dX4_wordOfLeastCost_64 : decode cX4_wordOfLeastCost 64 = .ok (.invokevirtual 24, 3) := by decide +kernel
theorem dX4_wordOfLeastCost_67 : decode cX4_wordOfLeastCost 67 = .ok (.istore 7, 2) := by decide +kernel
theorem dX4_wordOfLeastCost_69 : decode cX4_wordOfLeastCost 69 = .ok (.iload 7, 2) := by decide +kernel
theorem dX4_wordOfLeastCost_71 : decode cX4_wordOfLeastCost 71 = .ok (.iload_n 3, 1) := by decide +kernel
theorem dX4_wordOfLeastCost_72 : decode cX4_wordOfLeastCost 72 = .ok (.if_icmp .ge 16, 3) := by decide +kernel
theorem dX4_wordOfLeastCost_75 : decode cX4_wordOfLeastCost 75 = .ok (.iload 7, 2) := by decide +kernel
theorem dX4_wordOfLeastCost_77 : decode cX4_wordOfLeastCost 77 = .ok (.istore_n 3, 1) := by decide +kernel
theorem dX4_wordOfLeastCost_78 : decode cX4_wordOfLeastCost 78 = .ok (.bipush 100, 2) := by decide +kernel
theorem dX4_wordOfLeastCost_80 : decode cX4_wordOfLeastCost 80 = .ok (.iload 5, 2) := by decide +kernel
theorem dX4_wordOfLeastCost_82 : decode cX4_wordOfLeastCost 82 = .ok (.imul, 1) := by decide +kernel
theorem dX4_wordOfLeastCost_83 : decode cX4_wordOfLeastCost 83 = .ok (.iload 6, 2) := by decide +kernel
theorem dX4_wordOfLeastCost_85 : decode cX4_wordOfLeastCost 85 = .ok (.iadd, 1) := by decide +kernel
theorem dX4_wordOfLeastCost_86 : decode cX4_wordOfLeastCost 86 = .ok (.istore 4, 2) := by decide +kernel
theorem dX4_wordOfLeastCost_88 : decode cX4_wordOfLeastCost 88 = .ok (.iinc 6 1, 3) := by decide +kernel
theorem dX4_wordOfLeastCost_91 : decode cX4_wordOfLeastCost 91 = .ok (.goto (-62), 3) := by decide +kernel
theorem dX4_wordOfLeastCost_94 : decode cX4_wordOfLeastCost 94 = .ok (.iinc 5 1, 3) := by decide +kernel
theorem dX4_wordOfLeastCost_97 : decode cX4_wordOfLeastCost 97 = .ok (.goto (-80), 3) := by decide +kernel
theorem dX4_wordOfLeastCost_100 : decode cX4_wordOfLeastCost 100 = .ok (.iload 4, 2) := by decide +kernel
theorem dX4_wordOfLeastCost_102 : decode cX4_wordOfLeastCost 102 = .ok (.ireturn, 1) := by decide +kernel
theorem dX4_lanesForCost_0 : decode cX4_lanesForCost 0 = .ok (.aload_n 0, 1) := by decide +kernel
theorem dX4_lanesForCost_1 : decode cX4_lanesForCost 1 = .ok (.getfield 12, 3) := by decide +kernel
theorem dX4_lanesForCost_4 : decode cX4_lanesForCost 4 = .ok (.aload_n 2, 1) := by decide +kernel
theorem dX4_lanesForCost_5 : decode cX4_lanesForCost 5 = .ok (.invokevirtual 32, 3) := by decide +kernel
theorem dX4_lanesForCost_8 : decode cX4_lanesForCost 8 = .ok (.iconst 1, 1) := by decide +kernel
theorem dX4_lanesForCost_9 : decode cX4_lanesForCost 9 = .ok (.istore 4, 2) := by decide +kernel
theorem dX4_lanesForCost_11 : decode cX4_lanesForCost 11 = .ok (.iload 4, 2) := by decide +kernel
theorem dX4_lanesForCost_13 : decode cX4_lanesForCost 13 = .ok (.aload_n 2, 1) := by decide +kernel
theorem dX4_lanesForCost_14 : decode cX4_lanesForCost 14 = .ok (.getfield 28, 3) := by decide +kernel
theorem dX4_lanesForCost_17 : decode cX4_lanesForCost 17 = .ok (.if_icmp .gt 37, 3) := by decide +kernel
theorem dX4_lanesForCost_20 : decode cX4_lanesForCost 20 = .ok (.aload_n 0, 1) := by decide +kernel
theorem dX4_lanesForCost_21 : decode cX4_lanesForCost 21 = .ok (.getfield 12, 3) := by decide +kernel
theorem dX4_lanesForCost_24 : decode cX4_lanesForCost 24 = .ok (.iload 4, 2) := by decide +kernel
theorem dX4_lanesForCost_26 : decode cX4_lanesForCost 26 = .ok (.putfield 28, 3) := by decide +kernel
theorem dX4_lanesForCost_29 : decode cX4_lanesForCost 29 = .ok (.aload_n 1, 1) := by decide +kernel
theorem dX4_lanesForCost_30 : decode cX4_lanesForCost 30 = .ok (.aload_n 0, 1) := by decide +kernel
theorem dX4_lanesForCost_31 : decode cX4_lanesForCost 31 = .ok (.getfield 12, 3) := by decide +kernel
theorem dX4_lanesForCost_34 : decode cX4_lanesForCost 34 = .ok (.invokevirtual 18, 3) := by decide +kernel
theorem dX4_lanesForCost_37 : decode cX4_lanesForCost 37 = .ok (.aload_n 1, 1) := by decide +kernel
theorem dX4_lanesForCost_38 : decode cX4_lanesForCost 38 = .ok (.invokevirtual 24, 3) := by decide +kernel
theorem dX4_lanesForCost_41 : decode cX4_lanesForCost 41 = .ok (.iload_n 3, 1) := by decide +kernel
theorem dX4_lanesForCost_42 : decode cX4_lanesForCost 42 = .ok (.if_icmp .gt 6, 3) := by decide +kernel
theorem dX4_lanesForCost_45 : decode cX4_lanesForCost 45 = .ok (.iload 4, 2) := by decide +kernel
theorem dX4_lanesForCost_47 : decode cX4_lanesForCost 47 = .ok (.ireturn, 1) := by decide +kernel
theorem dX4_lanesForCost_48 : decode cX4_lanesForCost 48 = .ok (.iinc 4 1, 3) := by decide +kernel
theorem dX4_lanesForCost_51 : decode cX4_lanesForCost 51 = .ok (.goto (-40), 3) := by decide +kernel
theorem dX4_lanesForCost_54 : decode cX4_lanesForCost 54 = .ok (.bipush (-9), 2) := by decide +kernel
theorem dX4_lanesForCost_56 : decode cX4_lanesForCost 56 = .ok (.ireturn, 1) := by decide +kernel
theorem dX4_switchThatParts_0 : decode cX4_switchThatParts 0 = .ok (.iconst 0, 1) := by decide +kernel
theorem dX4_switchThatParts_1 : decode cX4_switchThatParts 1 = .ok (.istore_n 3, 1) := by decide +kernel
theorem dX4_switchThatParts_2 : decode cX4_switchThatParts 2 = .ok (.iload_n 3, 1) := by decide +kernel
theorem dX4_switchThatParts_3 : decode cX4_switchThatParts 3 = .ok (.getstatic 39, 3) := by decide +kernel
theorem dX4_switchThatParts_6 : decode cX4_switchThatParts 6 = .ok (.iconst 0, 1) := by decide +kernel
theorem dX4_switchThatParts_7 : decode cX4_switchThatParts 7 = .ok (.iaload, 1) := by decide +kernel
theorem dX4_switchThatParts_8 : decode cX4_switchThatParts 8 = .ok (.if_icmp .gt 67, 3) := by decide +kernel
theorem dX4_switchThatParts_11 : decode cX4_switchThatParts 11 = .ok (.aload_n 0, 1) := by decide +kernel
theorem dX4_switchThatParts_12 : decode cX4_switchThatParts 12 = .ok (.getfield 12, 3) := by decide +kernel
theorem dX4_switchThatParts_15 : decode cX4_switchThatParts 15 = .ok (.aload_n 2, 1) := by decide +kernel
theorem dX4_switchThatParts_16 : decode cX4_switchThatParts 16 = .ok (.invokevirtual 32, 3) := by decide +kernel
theorem dX4_switchThatParts_19 : decode cX4_switchThatParts 19 = .ok (.aload_n 0, 1) := by decide +kernel
theorem dX4_switchThatParts_20 : decode cX4_switchThatParts 20 = .ok (.getfield 12, 3) := by decide +kernel
theorem dX4_switchThatParts_23 : decode cX4_switchThatParts 23 = .ok (.getfield 43, 3) := by decide +kernel
theorem dX4_switchThatParts_26 : decode cX4_switchThatParts 26 = .ok (.iconst 0, 1) := by decide +kernel
theorem dX4_switchThatParts_27 : decode cX4_switchThatParts 27 = .ok (.iload_n 3, 1) := by decide +kernel
theorem dX4_switchThatParts_28 : decode cX4_switchThatParts 28 = .ok (.iastore, 1) := by decide +kernel
theorem dX4_switchThatParts_29 : decode cX4_switchThatParts 29 = .ok (.aload_n 1, 1) := by decide +kernel
theorem dX4_switchThatParts_30 : decode cX4_switchThatParts 30 = .ok (.aload_n 0, 1) := by decide +kernel
theorem dX4_switchThatParts_31 : decode cX4_switchThatParts 31 = .ok (.getfield 12, 3) := by decide +kernel
theorem dX4_switchThatParts_34 : decode cX4_switchThatParts 34 = .ok (.invokevirtual 18, 3) := by decide +kernel
theorem dX4_switchThatParts_37 : decode cX4_switchThatParts 37 = .ok (.aload_n 1, 1) := by decide +kernel
theorem dX4_switchThatParts_38 : decode cX4_switchThatParts 38 = .ok (.invokevirtual 24, 3) := by decide +kernel
theorem dX4_switchThatParts_41 : decode cX4_switchThatParts 41 = .ok (.istore 4, 2) := by decide +kernel
theorem dX4_switchThatParts_43 : decode cX4_switchThatParts 43 = .ok (.aload_n 0, 1) := by decide +kernel
theorem dX4_switchThatParts_44 : decode cX4_switchThatParts 44 = .ok (.getfield 12, 3) := by decide +kernel
theorem dX4_switchThatParts_47 : decode cX4_switchThatParts 47 = .ok (.invokevirtual 46, 3) := by decide +kernel
theorem dX4_switchThatParts_50 : decode cX4_switchThatParts 50 = .ok (.aload_n 1, 1) := by decide +kernel
theorem dX4_switchThatParts_51 : decode cX4_switchThatParts 51 = .ok (.aload_n 0, 1) := by decide +kernel
theorem dX4_switchThatParts_52 : decode cX4_switchThatParts 52 = .ok (.getfield 12, 3) := by decide +kernel
theorem dX4_switchThatParts_55 : decode cX4_switchThatParts 55 = .ok (.invokevirtual 18, 3) := by decide +kernel
theorem dX4_switchThatParts_58 : decode cX4_switchThatParts 58 = .ok (.iload 4, 2) := by decide +kernel
theorem dX4_switchThatParts_60 : decode cX4_switchThatParts 60 = .ok (.aload_n 1, 1) := by decide +kernel
theorem dX4_switchThatParts_61 : decode cX4_switchThatParts 61 = .ok (.invokevirtual 24, 3) := by decide +kernel
theorem dX4_switchThatParts_64 : decode cX4_switchThatParts 64 = .ok (.if_icmp .le 5, 3) := by decide +kernel
theorem dX4_switchThatParts_67 : decode cX4_switchThatParts 67 = .ok (.iload_n 3, 1) := by decide +kernel
theorem dX4_switchThatParts_68 : decode cX4_switchThatParts 68 = .ok (.ireturn, 1) := by decide +kernel
theorem dX4_switchThatParts_69 : decode cX4_switchThatParts 69 = .ok (.iinc 3 1, 3) := by decide +kernel
theorem dX4_switchThatParts_72 : decode cX4_switchThatParts 72 = .ok (.goto (-70), 3) := by decide +kernel
theorem dX4_switchThatParts_75 : decode cX4_switchThatParts 75 = .ok (.bipush (-9), 2) := by decide +kernel
theorem dX4_switchThatParts_77 : decode cX4_switchThatParts 77 = .ok (.ireturn, 1) := by decide +kernel
theorem dX4_settingOfLeastCost_0 : decode cX4_settingOfLeastCost 0 = .ok (.aload_n 0, 1) := by decide +kernel
theorem dX4_settingOfLeastCost_1 : decode cX4_settingOfLeastCost 1 = .ok (.getfield 12, 3) := by decide +kernel
theorem dX4_settingOfLeastCost_4 : decode cX4_settingOfLeastCost 4 = .ok (.aload_n 2, 1) := by decide +kernel
theorem dX4_settingOfLeastCost_5 : decode cX4_settingOfLeastCost 5 = .ok (.invokevirtual 32, 3) := by decide +kernel
theorem dX4_settingOfLeastCost_8 : decode cX4_settingOfLeastCost 8 = .ok (.bipush (-9), 2) := by decide +kernel
theorem dX4_settingOfLeastCost_10 : decode cX4_settingOfLeastCost 10 = .ok (.istore 4, 2) := by decide +kernel
theorem dX4_settingOfLeastCost_12 : decode cX4_settingOfLeastCost 12 = .ok (.iconst 0, 1) := by decide +kernel
theorem dX4_settingOfLeastCost_13 : decode cX4_settingOfLeastCost 13 = .ok (.istore 5, 2) := by decide +kernel
theorem dX4_settingOfLeastCost_15 : decode cX4_settingOfLeastCost 15 = .ok (.getstatic 49, 3) := by decide +kernel
theorem dX4_settingOfLeastCost_18 : decode cX4_settingOfLeastCost 18 = .ok (.iload_n 3, 1) := by decide +kernel
theorem dX4_settingOfLeastCost_19 : decode cX4_settingOfLeastCost 19 = .ok (.iaload, 1) := by decide +kernel
theorem dX4_settingOfLeastCost_20 : decode cX4_settingOfLeastCost 20 = .ok (.istore 6, 2) := by decide +kernel
theorem dX4_settingOfLeastCost_22 : decode cX4_settingOfLeastCost 22 = .ok (.iload 6, 2) := by decide +kernel
theorem dX4_settingOfLeastCost_24 : decode cX4_settingOfLeastCost 24 = .ok (.getstatic 39, 3) := by decide +kernel
theorem dX4_settingOfLeastCost_27 : decode cX4_settingOfLeastCost 27 = .ok (.iload_n 3, 1) := by decide +kernel
theorem dX4_settingOfLeastCost_28 : decode cX4_settingOfLeastCost 28 = .ok (.iaload, 1) := by decide +kernel
theorem dX4_settingOfLeastCost_29 : decode cX4_settingOfLeastCost 29 = .ok (.if_icmp .gt 56, 3) := by decide +kernel
theorem dX4_settingOfLeastCost_32 : decode cX4_settingOfLeastCost 32 = .ok (.aload_n 0, 1) := by decide +kernel
theorem dX4_settingOfLeastCost_33 : decode cX4_settingOfLeastCost 33 = .ok (.getfield 12, 3) := by decide +kernel
theorem dX4_settingOfLeastCost_36 : decode cX4_settingOfLeastCost 36 = .ok (.getfield 43, 3) := by decide +kernel
theorem dX4_settingOfLeastCost_39 : decode cX4_settingOfLeastCost 39 = .ok (.iload_n 3, 1) := by decide +kernel
theorem dX4_settingOfLeastCost_40 : decode cX4_settingOfLeastCost 40 = .ok (.iload 6, 2) := by decide +kernel
theorem dX4_settingOfLeastCost_42 : decode cX4_settingOfLeastCost 42 = .ok (.iastore, 1) := by decide +kernel
theorem dX4_settingOfLeastCost_43 : decode cX4_settingOfLeastCost 43 = .ok (.aload_n 1, 1) := by decide +kernel
theorem dX4_settingOfLeastCost_44 : decode cX4_settingOfLeastCost 44 = .ok (.aload_n 0, 1) := by decide +kernel
theorem dX4_settingOfLeastCost_45 : decode cX4_settingOfLeastCost 45 = .ok (.getfield 12, 3) := by decide +kernel
theorem dX4_settingOfLeastCost_48 : decode cX4_settingOfLeastCost 48 = .ok (.invokevirtual 18, 3) := by decide +kernel
theorem dX4_settingOfLeastCost_51 : decode cX4_settingOfLeastCost 51 = .ok (.aload_n 1, 1) := by decide +kernel
theorem dX4_settingOfLeastCost_52 : decode cX4_settingOfLeastCost 52 = .ok (.invokevirtual 24, 3) := by decide +kernel
theorem dX4_settingOfLeastCost_55 : decode cX4_settingOfLeastCost 55 = .ok (.istore 7, 2) := by decide +kernel
theorem dX4_settingOfLeastCost_57 : decode cX4_settingOfLeastCost 57 = .ok (.iload 4, 2) := by decide +kernel
theorem dX4_settingOfLeastCost_59 : decode cX4_settingOfLeastCost 59 = .ok (.bipush (-9), 2) := by decide +kernel
theorem dX4_settingOfLeastCost_61 : decode cX4_settingOfLeastCost 61 = .ok (.if_icmp .eq 10, 3) := by decide +kernel
theorem dX4_settingOfLeastCost_64 : decode cX4_settingOfLeastCost 64 = .ok (.iload 7, 2) := by decide +kernel
theorem dX4_settingOfLeastCost_66 : decode cX4_settingOfLeastCost 66 = .ok (.iload 5, 2) := by decide +kernel
theorem dX4_settingOfLeastCost_68 : decode cX4_settingOfLeastCost 68 = .ok (.if_icmp .ge 11, 3) := by decide +kernel
theorem dX4_settingOfLeastCost_71 : decode cX4_settingOfLeastCost 71 = .ok (.iload 7, 2) := by decide +kernel
theorem dX4_settingOfLeastCost_73 : decode cX4_settingOfLeastCost 73 = .ok (.istore 5, 2) := by decide +kernel
theorem dX4_settingOfLeastCost_75 : decode cX4_settingOfLeastCost 75 = .ok (.iload 6, 2) := by decide +kernel
theorem dX4_settingOfLeastCost_77 : decode cX4_settingOfLeastCost 77 = .ok (.istore 4, 2) := by decide +kernel
theorem dX4_settingOfLeastCost_79 : decode cX4_settingOfLeastCost 79 = .ok (.iinc 6 1, 3) := by decide +kernel
theorem dX4_settingOfLeastCost_82 : decode cX4_settingOfLeastCost 82 = .ok (.goto (-60), 3) := by decide +kernel
theorem dX4_settingOfLeastCost_85 : decode cX4_settingOfLeastCost 85 = .ok (.iload 4, 2) := by decide +kernel
theorem dX4_settingOfLeastCost_87 : decode cX4_settingOfLeastCost 87 = .ok (.ireturn, 1) := by decide +kernel
theorem dX4_savedByBuying_0 : decode cX4_savedByBuying 0 = .ok (.aload_n 0, 1) := by decide +kernel
theorem dX4_savedByBuying_1 : decode cX4_savedByBuying 1 = .ok (.getfield 12, 3) := by decide +kernel
theorem dX4_savedByBuying_4 : decode cX4_savedByBuying 4 = .ok (.aload_n 2, 1) := by decide +kernel
theorem dX4_savedByBuying_5 : decode cX4_savedByBuying 5 = .ok (.invokevirtual 32, 3) := by decide +kernel
theorem dX4_savedByBuying_8 : decode cX4_savedByBuying 8 = .ok (.iconst 0, 1) := by decide +kernel
theorem dX4_savedByBuying_9 : decode cX4_savedByBuying 9 = .ok (.istore 6, 2) := by decide +kernel
theorem dX4_savedByBuying_11 : decode cX4_savedByBuying 11 = .ok (.iload 6, 2) := by decide +kernel
theorem dX4_savedByBuying_13 : decode cX4_savedByBuying 13 = .ok (.iconst 4, 1) := by decide +kernel
theorem dX4_savedByBuying_14 : decode cX4_savedByBuying 14 = .ok (.if_icmp .ge 65, 3) := by decide +kernel
theorem dX4_savedByBuying_17 : decode cX4_savedByBuying 17 = .ok (.aload_n 2, 1) := by decide +kernel
theorem dX4_savedByBuying_18 : decode cX4_savedByBuying 18 = .ok (.iload_n 3, 1) := by decide +kernel
theorem dX4_savedByBuying_19 : decode cX4_savedByBuying 19 = .ok (.iload 6, 2) := by decide +kernel
theorem dX4_savedByBuying_21 : decode cX4_savedByBuying 21 = .ok (.invokevirtual 52, 3) := by decide +kernel
theorem dX4_savedByBuying_24 : decode cX4_savedByBuying 24 = .ok (.istore 7, 2) := by decide +kernel
theorem dX4_savedByBuying_26 : decode cX4_savedByBuying 26 = .ok (.iload 7, 2) := by decide +kernel
theorem dX4_savedByBuying_28 : decode cX4_savedByBuying 28 = .ok (.iload 5, 2) := by decide +kernel
theorem dX4_savedByBuying_30 : decode cX4_savedByBuying 30 = .ok (.imul, 1) := by decide +kernel
theorem dX4_savedByBuying_31 : decode cX4_savedByBuying 31 = .ok (.bipush 100, 2) := by decide +kernel
theorem dX4_savedByBuying_33 : decode cX4_savedByBuying 33 = .ok (.idiv, 1) := by decide +kernel
theorem dX4_savedByBuying_34 : decode cX4_savedByBuying 34 = .ok (.istore 8, 2) := by decide +kernel
theorem dX4_savedByBuying_36 : decode cX4_savedByBuying 36 = .ok (.aload_n 0, 1) := by decide +kernel
theorem dX4_savedByBuying_37 : decode cX4_savedByBuying 37 = .ok (.getfield 12, 3) := by decide +kernel
theorem dX4_savedByBuying_40 : decode cX4_savedByBuying 40 = .ok (.iload_n 3, 1) := by decide +kernel
theorem dX4_savedByBuying_41 : decode cX4_savedByBuying 41 = .ok (.iload 6, 2) := by decide +kernel
theorem dX4_savedByBuying_43 : decode cX4_savedByBuying 43 = .ok (.iload 7, 2) := by decide +kernel
theorem dX4_savedByBuying_45 : decode cX4_savedByBuying 45 = .ok (.iload 8, 2) := by decide +kernel
theorem dX4_savedByBuying_47 : decode cX4_savedByBuying 47 = .ok (.isub, 1) := by decide +kernel
theorem dX4_savedByBuying_48 : decode cX4_savedByBuying 48 = .ok (.invokevirtual 56, 3) := by decide +kernel
theorem dX4_savedByBuying_51 : decode cX4_savedByBuying 51 = .ok (.aload_n 0, 1) := by decide +kernel
theorem dX4_savedByBuying_52 : decode cX4_savedByBuying 52 = .ok (.getfield 12, 3) := by decide +kernel
theorem dX4_savedByBuying_55 : decode cX4_savedByBuying 55 = .ok (.iload 4, 2) := by decide +kernel
theorem dX4_savedByBuying_57 : decode cX4_savedByBuying 57 = .ok (.iload 6, 2) := by decide +kernel
theorem dX4_savedByBuying_59 : decode cX4_savedByBuying 59 = .ok (.aload_n 2, 1) := by decide +kernel
theorem dX4_savedByBuying_60 : decode cX4_savedByBuying 60 = .ok (.iload 4, 2) := by decide +kernel
theorem dX4_savedByBuying_62 : decode cX4_savedByBuying 62 = .ok (.iload 6, 2) := by decide +kernel
theorem dX4_savedByBuying_64 : decode cX4_savedByBuying 64 = .ok (.invokevirtual 52, 3) := by decide +kernel
theorem dX4_savedByBuying_67 : decode cX4_savedByBuying 67 = .ok (.iload 8, 2) := by decide +kernel
theorem dX4_savedByBuying_69 : decode cX4_savedByBuying 69 = .ok (.iadd, 1) := by decide +kernel
theorem dX4_savedByBuying_70 : decode cX4_savedByBuying 70 = .ok (.invokevirtual 56, 3) := by decide +kernel
theorem dX4_savedByBuying_73 : decode cX4_savedByBuying 73 = .ok (.iinc 6 1, 3) := by decide +kernel
theorem dX4_savedByBuying_76 : decode cX4_savedByBuying 76 = .ok (.goto (-65), 3) := by decide +kernel
theorem dX4_savedByBuying_79 : decode cX4_savedByBuying 79 = .ok (.aload_n 1, 1) := by decide +kernel
theorem dX4_savedByBuying_80 : decode cX4_savedByBuying 80 = .ok (.aload_n 2, 1) := by decide +kernel
theorem dX4_savedByBuying_81 : decode cX4_savedByBuying 81 = .ok (.invokevirtual 18, 3) := by decide +kernel
theorem dX4_savedByBuying_84 : decode cX4_savedByBuying 84 = .ok (.aload_n 1, 1) := by decide +kernel
theorem dX4_savedByBuying_85 : decode cX4_savedByBuying 85 = .ok (.invokevirtual 24, 3) := by decide +kernel
theorem dX4_savedByBuying_88 : decode cX4_savedByBuying 88 = .ok (.istore 6, 2) := by decide +kernel
theorem dX4_savedByBuying_90 : decode cX4_savedByBuying 90 = .ok (.aload_n 1, 1) := by decide +kernel
theorem dX4_savedByBuying_91 : decode cX4_savedByBuying 91 = .ok (.aload_n 0, 1) := by decide +kernel
theorem dX4_savedByBuying_92 : decode cX4_savedByBuying 92 = .ok (.getfield 12, 3) := by decide +kernel
theorem dX4_savedByBuying_95 : decode cX4_savedByBuying 95 = .ok (.invokevirtual 18, 3) := by decide +kernel
theorem dX4_savedByBuying_98 : decode cX4_savedByBuying 98 = .ok (.iload 6, 2) := by decide +kernel
theorem dX4_savedByBuying_100 : decode cX4_savedByBuying 100 = .ok (.aload_n 1, 1) := by decide +kernel
theorem dX4_savedByBuying_101 : decode cX4_savedByBuying 101 = .ok (.invokevirtual 24, 3) := by decide +kernel
theorem dX4_savedByBuying_104 : decode cX4_savedByBuying 104 = .ok (.isub, 1) := by decide +kernel
theorem dX4_savedByBuying_105 : decode cX4_savedByBuying 105 = .ok (.ireturn, 1) := by decide +kernel
theorem dX4_lostByFailing_0 : decode cX4_lostByFailing 0 = .ok (.aload_n 0, 1) := by decide +kernel
theorem dX4_lostByFailing_1 : decode cX4_lostByFailing 1 = .ok (.getfield 12, 3) := by decide +kernel
theorem dX4_lostByFailing_4 : decode cX4_lostByFailing 4 = .ok (.aload_n 2, 1) := by decide +kernel
theorem dX4_lostByFailing_5 : decode cX4_lostByFailing 5 = .ok (.invokevirtual 32, 3) := by decide +kernel
theorem dX4_lostByFailing_8 : decode cX4_lostByFailing 8 = .ok (.aload_n 0, 1) := by decide +kernel
theorem dX4_lostByFailing_9 : decode cX4_lostByFailing 9 = .ok (.getfield 12, 3) := by decide +kernel
theorem dX4_lostByFailing_12 : decode cX4_lostByFailing 12 = .ok (.iload_n 3, 1) := by decide +kernel
theorem dX4_lostByFailing_13 : decode cX4_lostByFailing 13 = .ok (.iload 4, 2) := by decide +kernel
theorem dX4_lostByFailing_15 : decode cX4_lostByFailing 15 = .ok (.iload 5, 2) := by decide +kernel
theorem dX4_lostByFailing_17 : decode cX4_lostByFailing 17 = .ok (.invokevirtual 60, 3) := by decide +kernel
theorem dX4_lostByFailing_20 : decode cX4_lostByFailing 20 = .ok (.aload_n 1, 1) := by decide +kernel
theorem dX4_lostByFailing_21 : decode cX4_lostByFailing 21 = .ok (.aload_n 2, 1) := by decide +kernel
theorem dX4_lostByFailing_22 : decode cX4_lostByFailing 22 = .ok (.invokevirtual 18, 3) := by decide +kernel
theorem dX4_lostByFailing_25 : decode cX4_lostByFailing 25 = .ok (.aload_n 1, 1) := by decide +kernel
theorem dX4_lostByFailing_26 : decode cX4_lostByFailing 26 = .ok (.invokevirtual 24, 3) := by decide +kernel
theorem dX4_lostByFailing_29 : decode cX4_lostByFailing 29 = .ok (.istore 6, 2) := by decide +kernel
theorem dX4_lostByFailing_31 : decode cX4_lostByFailing 31 = .ok (.aload_n 1, 1) := by decide +kernel
theorem dX4_lostByFailing_32 : decode cX4_lostByFailing 32 = .ok (.aload_n 0, 1) := by decide +kernel
theorem dX4_lostByFailing_33 : decode cX4_lostByFailing 33 = .ok (.getfield 12, 3) := by decide +kernel
theorem dX4_lostByFailing_36 : decode cX4_lostByFailing 36 = .ok (.invokevirtual 18, 3) := by decide +kernel
theorem dX4_lostByFailing_39 : decode cX4_lostByFailing 39 = .ok (.aload_n 1, 1) := by decide +kernel
theorem dX4_lostByFailing_40 : decode cX4_lostByFailing 40 = .ok (.invokevirtual 24, 3) := by decide +kernel
theorem dX4_lostByFailing_43 : decode cX4_lostByFailing 43 = .ok (.iload 6, 2) := by decide +kernel
theorem dX4_lostByFailing_45 : decode cX4_lostByFailing 45 = .ok (.isub, 1) := by decide +kernel
theorem dX4_lostByFailing_46 : decode cX4_lostByFailing 46 = .ok (.ireturn, 1) := by decide +kernel
theorem dX5_settle_0 : decode cX5_settle 0 = .ok (.iconst 0, 1) := by decide +kernel
theorem dX5_settle_1 : decode cX5_settle 1 = .ok (.istore_n 2, 1) := by decide +kernel
theorem dX5_settle_2 : decode cX5_settle 2 = .ok (.iload_n 2, 1) := by decide +kernel
theorem dX5_settle_3 : decode cX5_settle 3 = .ok (.aload_n 1, 1) := by decide +kernel
theorem dX5_settle_4 : decode cX5_settle 4 = .ok (.getfield 15, 3) := by decide +kernel
theorem dX5_settle_7 : decode cX5_settle 7 = .ok (.if_icmp .ge 20, 3) := by decide +kernel
theorem dX5_settle_10 : decode cX5_settle 10 = .ok (.aload_n 0, 1) := by decide +kernel
theorem dX5_settle_11 : decode cX5_settle 11 = .ok (.getfield 9, 3) := by decide +kernel
theorem dX5_settle_14 : decode cX5_settle 14 = .ok (.iload_n 2, 1) := by decide +kernel
theorem dX5_settle_15 : decode cX5_settle 15 = .ok (.aload_n 1, 1) := by decide +kernel
theorem dX5_settle_16 : decode cX5_settle 16 = .ok (.iload_n 2, 1) := by decide +kernel
theorem dX5_settle_17 : decode cX5_settle 17 = .ok (.invokestatic 21, 3) := by decide +kernel
theorem dX5_settle_20 : decode cX5_settle 20 = .ok (.iastore, 1) := by decide +kernel
theorem dX5_settle_21 : decode cX5_settle 21 = .ok (.iinc 2 1, 3) := by decide +kernel
theorem dX5_settle_24 : decode cX5_settle 24 = .ok (.goto (-22), 3) := by decide +kernel
theorem dX5_settle_27 : decode cX5_settle 27 = .ok (.iconst 1, 1) := by decide +kernel
theorem dX5_settle_28 : decode cX5_settle 28 = .ok (.istore_n 2, 1) := by decide +kernel
theorem dX5_settle_29 : decode cX5_settle 29 = .ok (.iconst 0, 1) := by decide +kernel
theorem dX5_settle_30 : decode cX5_settle 30 = .ok (.istore_n 3, 1) := by decide +kernel
theorem dX5_settle_31 : decode cX5_settle 31 = .ok (.iload_n 3, 1) := by decide +kernel
theorem dX5_settle_32 : decode cX5_settle 32 = .ok (.bipush 20, 2) := by decide +kernel
theorem dX5_settle_34 : decode cX5_settle 34 = .ok (.if_icmp .ge 19, 3) := by decide +kernel
theorem dX5_settle_37 : decode cX5_settle 37 = .ok (.iload_n 2, 1) := by decide +kernel
theorem dX5_settle_38 : decode cX5_settle 38 = .ok (.ifCond .eq 15, 3) := by decide +kernel
theorem dX5_settle_41 : decode cX5_settle 41 = .ok (.aload_n 0, 1) := by decide +kernel
theorem dX5_settle_42 : decode cX5_settle 42 = .ok (.aload_n 1, 1) := by decide +kernel
theorem dX5_settle_43 : decode cX5_settle 43 = .ok (.invokevirtual 25, 3) := by decide +kernel
theorem dX5_settle_46 : decode cX5_settle 46 = .ok (.istore_n 2, 1) := by decide +kernel
theorem dX5_settle_47 : decode cX5_settle 47 = .ok (.iinc 3 1, 3) := by decide +kernel
theorem dX5_settle_50 : decode cX5_settle 50 = .ok (.goto (-19), 3) := by decide +kernel
theorem dX5_settle_53 : decode cX5_settle 53 = .ok (.return_, 1) := by decide +kernel
theorem dX5_firstLane_0 : decode cX5_firstLane 0 = .ok (.iconst 0, 1) := by decide +kernel
theorem dX5_firstLane_1 : decode cX5_firstLane 1 = .ok (.istore_n 2, 1) := by decide +kernel
theorem dX5_firstLane_2 : decode cX5_firstLane 2 = .ok (.iload_n 2, 1) := by decide +kernel
theorem dX5_firstLane_3 : decode cX5_firstLane 3 = .ok (.aload_n 0, 1) := by decide +kernel
theorem dX5_firstLane_4 : decode cX5_firstLane 4 = .ok (.getfield 29, 3) := by decide +kernel
theorem dX5_firstLane_7 : decode cX5_firstLane 7 = .ok (.if_icmp .ge 24, 3) := by decide +kernel
theorem dX5_firstLane_10 : decode cX5_firstLane 10 = .ok (.aload_n 0, 1) := by decide +kernel
theorem dX5_firstLane_11 : decode cX5_firstLane 11 = .ok (.iload_n 2, 1) := by decide +kernel
theorem dX5_firstLane_12 : decode cX5_firstLane 12 = .ok (.iconst 0, 1) := by decide +kernel
theorem dX5_firstLane_13 : decode cX5_firstLane 13 = .ok (.invokevirtual 32, 3) := by decide +kernel
theorem dX5_firstLane_16 : decode cX5_firstLane 16 = .ok (.iload_n 1, 1) := by decide +kernel
theorem dX5_firstLane_17 : decode cX5_firstLane 17 = .ok (.invokestatic 36, 3) := by decide +kernel
theorem dX5_firstLane_20 : decode cX5_firstLane 20 = .ok (.ifCond .eq 5, 3) := by decide +kernel
theorem dX5_firstLane_23 : decode cX5_firstLane 23 = .ok (.iload_n 2, 1) := by decide +kernel
theorem dX5_firstLane_24 : decode cX5_firstLane 24 = .ok (.ireturn, 1) := by decide +kernel
theorem dX5_firstLane_25 : decode cX5_firstLane 25 = .ok (.iinc 2 1, 3) := by decide +kernel
theorem dX5_firstLane_28 : decode cX5_firstLane 28 = .ok (.goto (-26), 3) := by decide +kernel
theorem dX5_firstLane_31 : decode cX5_firstLane 31 = .ok (.bipush (-9), 2) := by decide +kernel
theorem dX5_firstLane_33 : decode cX5_firstLane 33 = .ok (.ireturn, 1) := by decide +kernel
theorem dX5_goRound_0 : decode cX5_goRound 0 = .ok (.iconst 0, 1) := by decide +kernel
theorem dX5_goRound_1 : decode cX5_goRound 1 = .ok (.istore_n 2, 1) := by decide +kernel
theorem dX5_goRound_2 : decode cX5_goRound 2 = .ok (.iconst 0, 1) := by decide +kernel
theorem dX5_goRound_3 : decode cX5_goRound 3 = .ok (.istore_n 3, 1) := by decide +kernel
theorem dX5_goRound_4 : decode cX5_goRound 4 = .ok (.iload_n 3, 1) := by decide +kernel
theorem dX5_goRound_5 : decode cX5_goRound 5 = .ok (.aload_n 1, 1) := by decide +kernel
theorem dX5_goRound_6 : decode cX5_goRound 6 = .ok (.getfield 15, 3) := by decide +kernel
theorem dX5_goRound_9 : decode cX5_goRound 9 = .ok (.if_icmp .ge 46, 3) := by decide +kernel
theorem dX5_goRound_12 : decode cX5_goRound 12 = .ok (.aload_n 0, 1) := by decide +kernel
theorem dX5_goRound_13 : decode cX5_goRound 13 = .ok (.aload_n 1, 1) := by decide +kernel
theorem dX5_goRound_14 : decode cX5_goRound 14 = .ok (.iload_n 3, 1) := by decide +kernel
theorem dX5_goRound_15 : decode cX5_goRound 15 = .ok (.invokevirtual 40, 3) := by decide +kernel
theorem dX5_goRound_18 : decode cX5_goRound 18 = .ok (.istore 4, 2) := by decide +kernel
theorem dX5_goRound_20 : decode cX5_goRound 20 = .ok (.iload_n 2, 1) := by decide +kernel
theorem dX5_goRound_21 : decode cX5_goRound 21 = .ok (.ifCond .ne 14, 3) := by decide +kernel
theorem dX5_goRound_24 : decode cX5_goRound 24 = .ok (.iload 4, 2) := by decide +kernel
theorem dX5_goRound_26 : decode cX5_goRound 26 = .ok (.aload_n 0, 1) := by decide +kernel
theorem dX5_goRound_27 : decode cX5_goRound 27 = .ok (.getfield 9, 3) := by decide +kernel
theorem dX5_goRound_30 : decode cX5_goRound 30 = .ok (.iload_n 3, 1) := by decide +kernel
theorem dX5_goRound_31 : decode cX5_goRound 31 = .ok (.iaload, 1) := by decide +kernel
theorem dX5_goRound_32 : decode cX5_goRound 32 = .ok (.if_icmp .eq 7, 3) := by decide +kernel
theorem dX5_goRound_35 : decode cX5_goRound 35 = .ok (.iconst 1, 1) := by decide +kernel
theorem dX5_goRound_36 : decode cX5_goRound 36 = .ok (.goto 4, 3) := by decide +kernel
theorem dX5_goRound_39 : decode cX5_goRound 39 = .ok (.iconst 0, 1) := by decide +kernel
theorem dX5_goRound_40 : decode cX5_goRound 40 = .ok (.istore_n 2, 1) := by decide +kernel
theorem dX5_goRound_41 : decode cX5_goRound 41 = .ok (.aload_n 0, 1) := by decide +kernel
theorem dX5_goRound_42 : decode cX5_goRound 42 = .ok (.getfield 9, 3) := by decide +kernel
theorem dX5_goRound_45 : decode cX5_goRound 45 = .ok (.iload_n 3, 1) := by decide +kernel
theorem dX5_goRound_46 : decode cX5_goRound 46 = .ok (.iload 4, 2) := by decide +kernel
theorem dX5_goRound_48 : decode cX5_goRound 48 = .ok (.iastore, 1) := by decide +kernel
theorem dX5_goRound_49 : decode cX5_goRound 49 = .ok (.iinc 3 1, 3) := by decide +kernel
theorem dX5_goRound_52 : decode cX5_goRound 52 = .ok (.goto (-48), 3) := by decide +kernel
theorem dX5_goRound_55 : decode cX5_goRound 55 = .ok (.iload_n 2, 1) := by decide +kernel
theorem dX5_goRound_56 : decode cX5_goRound 56 = .ok (.ireturn, 1) := by decide +kernel
theorem dX5_leastLane_0 : decode cX5_leastLane 0 = .ok (.bipush (-9), 2) := by decide +kernel
theorem dX5_leastLane_2 : decode cX5_leastLane 2 = .ok (.istore_n 3, 1) := by decide +kernel
theorem dX5_leastLane_3 : decode cX5_leastLane 3 = .ok (.iconst 0, 1) := by decide +kernel
theorem dX5_leastLane_4 : decode cX5_leastLane 4 = .ok (.istore 4, 2) := by decide +kernel
theorem dX5_leastLane_6 : decode cX5_leastLane 6 = .ok (.iconst 0, 1) := by decide +kernel
theorem dX5_leastLane_7 : decode cX5_leastLane 7 = .ok (.istore 5, 2) := by decide +kernel
theorem dX5_leastLane_9 : decode cX5_leastLane 9 = .ok (.iload 5, 2) := by decide +kernel
theorem dX5_leastLane_11 : decode cX5_leastLane 11 = .ok (.aload_n 1, 1) := by decide +kernel
theorem dX5_leastLane_12 : decode cX5_leastLane 12 = .ok (.getfield 29, 3) := by decide +kernel
theorem dX5_leastLane_15 : decode cX5_leastLane 15 = .ok (.if_icmp .ge 53, 3) := by decide +kernel
theorem dX5_leastLane_18 : decode cX5_leastLane 18 = .ok (.aload_n 1, 1) := by decide +kernel
theorem dX5_leastLane_19 : decode cX5_leastLane 19 = .ok (.iload 5, 2) := by decide +kernel
theorem dX5_leastLane_21 : decode cX5_leastLane 21 = .ok (.iconst 0, 1) := by decide +kernel
theorem dX5_leastLane_22 : decode cX5_leastLane 22 = .ok (.invokevirtual 32, 3) := by decide +kernel
theorem dX5_leastLane_25 : decode cX5_leastLane 25 = .ok (.iload_n 2, 1) := by decide +kernel
theorem dX5_leastLane_26 : decode cX5_leastLane 26 = .ok (.invokestatic 36, 3) := by decide +kernel
theorem dX5_leastLane_29 : decode cX5_leastLane 29 = .ok (.ifCond .eq 33, 3) := by decide +kernel
theorem dX5_leastLane_32 : decode cX5_leastLane 32 = .ok (.aload_n 0, 1) := by decide +kernel
theorem dX5_leastLane_33 : decode cX5_leastLane 33 = .ok (.aload_n 1, 1) := by decide +kernel
theorem dX5_leastLane_34 : decode cX5_leastLane 34 = .ok (.iload 5, 2) := by decide +kernel
theorem dX5_leastLane_36 : decode cX5_leastLane 36 = .ok (.iload_n 2, 1) := by decide +kernel
theorem dX5_leastLane_37 : decode cX5_leastLane 37 = .ok (.invokevirtual 43, 3) := by decide +kernel
theorem dX5_leastLane_40 : decode cX5_leastLane 40 = .ok (.istore 6, 2) := by decide +kernel
theorem dX5_leastLane_42 : decode cX5_leastLane 42 = .ok (.iload_n 3, 1) := by decide +kernel
theorem dX5_leastLane_43 : decode cX5_leastLane 43 = .ok (.bipush (-9), 2) := by decide +kernel
theorem dX5_leastLane_45 : decode cX5_leastLane 45 = .ok (.if_icmp .eq 10, 3) := by decide +kernel
theorem dX5_leastLane_48 : decode cX5_leastLane 48 = .ok (.iload 6, 2) := by decide +kernel
theorem dX5_leastLane_50 : decode cX5_leastLane 50 = .ok (.iload 4, 2) := by decide +kernel
theorem dX5_leastLane_52 : decode cX5_leastLane 52 = .ok (.if_icmp .ge 10, 3) := by decide +kernel
theorem dX5_leastLane_55 : decode cX5_leastLane 55 = .ok (.iload 6, 2) := by decide +kernel
theorem dX5_leastLane_57 : decode cX5_leastLane 57 = .ok (.istore 4, 2) := by decide +kernel
theorem dX5_leastLane_59 : decode cX5_leastLane 59 = .ok (.iload 5, 2) := by decide +kernel
theorem dX5_leastLane_61 : decode cX5_leastLane 61 = .ok (.istore_n 3, 1) := by decide +kernel
theorem dX5_leastLane_62 : decode cX5_leastLane 62 = .ok (.iinc 5 1, 3) := by decide +kernel
theorem dX5_leastLane_65 : decode cX5_leastLane 65 = .ok (.goto (-56), 3) := by decide +kernel
theorem dX5_leastLane_68 : decode cX5_leastLane 68 = .ok (.iload_n 3, 1) := by decide +kernel
theorem dX5_leastLane_69 : decode cX5_leastLane 69 = .ok (.ireturn, 1) := by decide +kernel
theorem dX5_sumWith_0 : decode cX5_sumWith 0 = .ok (.iconst 0, 1) := by decide +kernel
theorem dX5_sumWith_1 : decode cX5_sumWith 1 = .ok (.istore 4, 2) := by decide +kernel
theorem dX5_sumWith_3 : decode cX5_sumWith 3 = .ok (.iconst 0, 1) := by decide +kernel
theorem dX5_sumWith_4 : decode cX5_sumWith 4 = .ok (.istore 5, 2) := by decide +kernel
theorem dX5_sumWith_6 : decode cX5_sumWith 6 = .ok (.iload 5, 2) := by decide +kernel
theorem dX5_sumWith_8 : decode cX5_sumWith 8 = .ok (.aload_n 1, 1) := by decide +kernel
theorem dX5_sumWith_9 : decode cX5_sumWith 9 = .ok (.getfield 15, 3) := by decide +kernel
theorem dX5_sumWith_12 : decode cX5_sumWith 12 = .ok (.if_icmp .ge 46, 3) := by decide +kernel
theorem dX5_sumWith_15 : decode cX5_sumWith 15 = .ok (.iload 5, 2) := by decide +kernel
theorem dX5_sumWith_17 : decode cX5_sumWith 17 = .ok (.iload_n 3, 1) := by decide +kernel
theorem dX5_sumWith_18 : decode cX5_sumWith 18 = .ok (.if_icmp .eq 14, 3) := by decide +kernel
theorem dX5_sumWith_21 : decode cX5_sumWith 21 = .ok (.aload_n 0, 1) := by decide +kernel
theorem dX5_sumWith_22 : decode cX5_sumWith 22 = .ok (.getfield 9, 3) := by decide +kernel
theorem dX5_sumWith_25 : decode cX5_sumWith 25 = .ok (.iload 5, 2) := by decide +kernel
theorem dX5_sumWith_27 : decode cX5_sumWith 27 = .ok (.iaload, 1) := by decide +kernel
theorem dX5_sumWith_28 : decode cX5_sumWith 28 = .ok (.iload_n 2, 1) := by decide +kernel
theorem dX5_sumWith_29 : decode cX5_sumWith 29 = .ok (.if_icmp .ne 23, 3) := by decide +kernel
theorem dX5_sumWith_32 : decode cX5_sumWith 32 = .ok (.iload 4, 2) := by decide +kernel
theorem dX5_sumWith_34 : decode cX5_sumWith 34 = .ok (.aload_n 1, 1) := by decide +kernel
theorem dX5_sumWith_35 : decode cX5_sumWith 35 = .ok (.iload 5, 2) := by decide +kernel
theorem dX5_sumWith_37 : decode cX5_sumWith 37 = .ok (.iconst 0, 1) := by decide +kernel
theorem dX5_sumWith_38 : decode cX5_sumWith 38 = .ok (.invokevirtual 47, 3) := by decide +kernel
theorem dX5_sumWith_41 : decode cX5_sumWith 41 = .ok (.aload_n 1, 1) := by decide +kernel
theorem dX5_sumWith_42 : decode cX5_sumWith 42 = .ok (.getfield 50, 3) := by decide +kernel
theorem dX5_sumWith_45 : decode cX5_sumWith 45 = .ok (.iload 5, 2) := by decide +kernel
theorem dX5_sumWith_47 : decode cX5_sumWith 47 = .ok (.iaload, 1) := by decide +kernel
theorem dX5_sumWith_48 : decode cX5_sumWith 48 = .ok (.imul, 1) := by decide +kernel
theorem dX5_sumWith_49 : decode cX5_sumWith 49 = .ok (.iadd, 1) := by decide +kernel
theorem dX5_sumWith_50 : decode cX5_sumWith 50 = .ok (.istore 4, 2) := by decide +kernel
theorem dX5_sumWith_52 : decode cX5_sumWith 52 = .ok (.iinc 5 1, 3) := by decide +kernel
theorem dX5_sumWith_55 : decode cX5_sumWith 55 = .ok (.goto (-49), 3) := by decide +kernel
theorem dX5_sumWith_58 : decode cX5_sumWith 58 = .ok (.iload 4, 2) := by decide +kernel
theorem dX5_sumWith_60 : decode cX5_sumWith 60 = .ok (.ireturn, 1) := by decide +kernel
theorem dX6_take_0 : decode cX6_take 0 = .ok (.iconst 0, 1) := by decide +kernel
theorem dX6_take_1 : decode cX6_take 1 = .ok (.istore 4, 2) := by decide +kernel
theorem dX6_take_3 : decode cX6_take 3 = .ok (.iload 4, 2) := by decide +kernel
theorem dX6_take_5 : decode cX6_take 5 = .ok (.iload_n 1, 1) := by decide +kernel
theorem dX6_take_6 : decode cX6_take 6 = .ok (.if_icmp .ge 49, 3) := by decide +kernel
theorem dX6_take_9 : decode cX6_take 9 = .ok (.aload_n 0, 1) := by decide +kernel
theorem dX6_take_10 : decode cX6_take 10 = .ok (.getfield 9, 3) := by decide +kernel
theorem dX6_take_13 : decode cX6_take 13 = .ok (.bipush 64, 2) := by decide +kernel
theorem dX6_take_15 : decode cX6_take 15 = .ok (.if_icmp .ge 40, 3) := by decide +kernel
theorem dX6_take_18 : decode cX6_take 18 = .ok (.aload_n 0, 1) := by decide +kernel
theorem dX6_take_19 : decode cX6_take 19 = .ok (.getfield 15, 3) := by decide +kernel
theorem dX6_take_22 : decode cX6_take 22 = .ok (.aload_n 0, 1) := by decide +kernel
theorem dX6_take_23 : decode cX6_take 23 = .ok (.getfield 9, 3) := by decide +kernel
theorem dX6_take_26 : decode cX6_take 26 = .ok (.lload_n 2, 1) := by decide +kernel
theorem dX6_take_27 : decode cX6_take 27 = .ok (.bipush 8, 2) := by decide +kernel
theorem dX6_take_29 : decode cX6_take 29 = .ok (.iload 4, 2) := by decide +kernel
theorem dX6_take_31 : decode cX6_take 31 = .ok (.imul, 1) := by decide +kernel
theorem dX6_take_32 : decode cX6_take 32 = .ok (.lshr, 1) := by decide +kernel
theorem dX6_take_33 : decode cX6_take 33 = .ok (.ldc2_w 35, 3) := by decide +kernel
theorem dX6_take_36 : decode cX6_take 36 = .ok (.land, 1) := by decide +kernel
theorem dX6_take_37 : decode cX6_take 37 = .ok (.l2i, 1) := by decide +kernel
theorem dX6_take_38 : decode cX6_take 38 = .ok (.iastore, 1) := by decide +kernel
theorem dX6_take_39 : decode cX6_take 39 = .ok (.aload_n 0, 1) := by decide +kernel
theorem dX6_take_40 : decode cX6_take 40 = .ok (.dup, 1) := by decide +kernel
theorem dX6_take_41 : decode cX6_take 41 = .ok (.getfield 9, 3) := by decide +kernel
theorem dX6_take_44 : decode cX6_take 44 = .ok (.iconst 1, 1) := by decide +kernel
theorem dX6_take_45 : decode cX6_take 45 = .ok (.iadd, 1) := by decide +kernel
theorem dX6_take_46 : decode cX6_take 46 = .ok (.putfield 9, 3) := by decide +kernel
theorem dX6_take_49 : decode cX6_take 49 = .ok (.iinc 4 1, 3) := by decide +kernel
theorem dX6_take_52 : decode cX6_take 52 = .ok (.goto (-49), 3) := by decide +kernel
theorem dX6_take_55 : decode cX6_take 55 = .ok (.aload_n 0, 1) := by decide +kernel
theorem dX6_take_56 : decode cX6_take 56 = .ok (.getfield 9, 3) := by decide +kernel
theorem dX6_take_59 : decode cX6_take 59 = .ok (.ireturn, 1) := by decide +kernel
theorem dX6_build_0 : decode cX6_build 0 = .ok (.aload_n 0, 1) := by decide +kernel
theorem dX6_build_1 : decode cX6_build 1 = .ok (.invokevirtual 37, 3) := by decide +kernel
theorem dX6_build_4 : decode cX6_build 4 = .ok (.ifCond .eq 11, 3) := by decide +kernel
theorem dX6_build_7 : decode cX6_build 7 = .ok (.aload_n 0, 1) := by decide +kernel
theorem dX6_build_8 : decode cX6_build 8 = .ok (.aload_n 1, 1) := by decide +kernel
theorem dX6_build_9 : decode cX6_build 9 = .ok (.invokevirtual 41, 3) := by decide +kernel
theorem dX6_build_12 : decode cX6_build 12 = .ok (.goto 11, 3) := by decide +kernel
theorem dX6_build_15 : decode cX6_build 15 = .ok (.sipush (-1000), 3) := by decide +kernel
theorem dX6_build_18 : decode cX6_build 18 = .ok (.aload_n 0, 1) := by decide +kernel
theorem dX6_build_19 : decode cX6_build 19 = .ok (.getfield 29, 3) := by decide +kernel
theorem dX6_build_22 : decode cX6_build 22 = .ok (.isub, 1) := by decide +kernel
theorem dX6_build_23 : decode cX6_build 23 = .ok (.istore_n 2, 1) := by decide +kernel
theorem dX6_build_24 : decode cX6_build 24 = .ok (.aload_n 0, 1) := by decide +kernel
theorem dX6_build_25 : decode cX6_build 25 = .ok (.iconst 0, 1) := by decide +kernel
theorem dX6_build_26 : decode cX6_build 26 = .ok (.putfield 9, 3) := by decide +kernel
theorem dX6_build_29 : decode cX6_build 29 = .ok (.iload_n 2, 1) := by decide +kernel
theorem dX6_build_30 : decode cX6_build 30 = .ok (.ireturn, 1) := by decide +kernel
theorem dX6_isWellFormed_0 : decode cX6_isWellFormed 0 = .ok (.aload_n 0, 1) := by decide +kernel
theorem dX6_isWellFormed_1 : decode cX6_isWellFormed 1 = .ok (.iconst 0, 1) := by decide +kernel
theorem dX6_isWellFormed_2 : decode cX6_isWellFormed 2 = .ok (.putfield 29, 3) := by decide +kernel
theorem dX6_isWellFormed_5 : decode cX6_isWellFormed 5 = .ok (.iconst 0, 1) := by decide +kernel
theorem dX6_isWellFormed_6 : decode cX6_isWellFormed 6 = .ok (.istore_n 1, 1) := by decide +kernel
theorem dX6_isWellFormed_7 : decode cX6_isWellFormed 7 = .ok (.iload_n 1, 1) := by decide +kernel
theorem dX6_isWellFormed_8 : decode cX6_isWellFormed 8 = .ok (.bipush 64, 2) := by decide +kernel
theorem dX6_isWellFormed_10 : decode cX6_isWellFormed 10 = .ok (.if_icmp .ge 31, 3) := by decide +kernel
theorem dX6_isWellFormed_13 : decode cX6_isWellFormed 13 = .ok (.aload_n 0, 1) := by decide +kernel
theorem dX6_isWellFormed_14 : decode cX6_isWellFormed 14 = .ok (.invokevirtual 45, 3) := by decide +kernel
theorem dX6_isWellFormed_17 : decode cX6_isWellFormed 17 = .ok (.ifCond .ne 5, 3) := by decide +kernel
theorem dX6_isWellFormed_20 : decode cX6_isWellFormed 20 = .ok (.iconst 0, 1) := by decide +kernel
theorem dX6_isWellFormed_21 : decode cX6_isWellFormed 21 = .ok (.ireturn, 1) := by decide +kernel
theorem dX6_isWellFormed_22 : decode cX6_isWellFormed 22 = .ok (.aload_n 0, 1) := by decide +kernel
theorem dX6_isWellFormed_23 : decode cX6_isWellFormed 23 = .ok (.getfield 29, 3) := by decide +kernel
theorem dX6_isWellFormed_26 : decode cX6_isWellFormed 26 = .ok (.aload_n 0, 1) := by decide +kernel
theorem dX6_isWellFormed_27 : decode cX6_isWellFormed 27 = .ok (.getfield 9, 3) := by decide +kernel
theorem dX6_isWellFormed_30 : decode cX6_isWellFormed 30 = .ok (.if_icmp .lt 5, 3) := by decide +kernel
theorem dX6_isWellFormed_33 : decode cX6_isWellFormed 33 = .ok (.iconst 1, 1) := by decide +kernel
theorem dX6_isWellFormed_34 : decode cX6_isWellFormed 34 = .ok (.ireturn, 1) := by decide +kernel
theorem dX6_isWellFormed_35 : decode cX6_isWellFormed 35 = .ok (.iinc 1 1, 3) := by decide +kernel
theorem dX6_isWellFormed_38 : decode cX6_isWellFormed 38 = .ok (.goto (-31), 3) := by decide +kernel
theorem dX6_isWellFormed_41 : decode cX6_isWellFormed 41 = .ok (.iconst 0, 1) := by decide +kernel
theorem dX6_isWellFormed_42 : decode cX6_isWellFormed 42 = .ok (.ireturn, 1) := by decide +kernel
theorem dX6_tellAll_0 : decode cX6_tellAll 0 = .ok (.iconst 0, 1) := by decide +kernel
theorem dX6_tellAll_1 : decode cX6_tellAll 1 = .ok (.istore_n 2, 1) := by decide +kernel
theorem dX6_tellAll_2 : decode cX6_tellAll 2 = .ok (.aload_n 0, 1) := by decide +kernel
theorem dX6_tellAll_3 : decode cX6_tellAll 3 = .ok (.getfield 25, 3) := by decide +kernel
theorem dX6_tellAll_6 : decode cX6_tellAll 6 = .ok (.aload_n 1, 1) := by decide +kernel
theorem dX6_tellAll_7 : decode cX6_tellAll 7 = .ok (.invokevirtual 48, 3) := by decide +kernel
theorem dX6_tellAll_10 : decode cX6_tellAll 10 = .ok (.aload_n 0, 1) := by decide +kernel
theorem dX6_tellAll_11 : decode cX6_tellAll 11 = .ok (.iconst 0, 1) := by decide +kernel
theorem dX6_tellAll_12 : decode cX6_tellAll 12 = .ok (.putfield 29, 3) := by decide +kernel
theorem dX6_tellAll_15 : decode cX6_tellAll 15 = .ok (.iconst 0, 1) := by decide +kernel
theorem dX6_tellAll_16 : decode cX6_tellAll 16 = .ok (.istore_n 3, 1) := by decide +kernel
theorem dX6_tellAll_17 : decode cX6_tellAll 17 = .ok (.iload_n 3, 1) := by decide +kernel
theorem dX6_tellAll_18 : decode cX6_tellAll 18 = .ok (.bipush 64, 2) := by decide +kernel
theorem dX6_tellAll_20 : decode cX6_tellAll 20 = .ok (.if_icmp .ge 56, 3) := by decide +kernel
theorem dX6_tellAll_23 : decode cX6_tellAll 23 = .ok (.aload_n 0, 1) := by decide +kernel
theorem dX6_tellAll_24 : decode cX6_tellAll 24 = .ok (.getfield 29, 3) := by decide +kernel
theorem dX6_tellAll_27 : decode cX6_tellAll 27 = .ok (.aload_n 0, 1) := by decide +kernel
theorem dX6_tellAll_28 : decode cX6_tellAll 28 = .ok (.getfield 9, 3) := by decide +kernel
theorem dX6_tellAll_31 : decode cX6_tellAll 31 = .ok (.if_icmp .ge 45, 3) := by decide +kernel
theorem dX6_tellAll_34 : decode cX6_tellAll 34 = .ok (.aload_n 0, 1) := by decide +kernel
theorem dX6_tellAll_35 : decode cX6_tellAll 35 = .ok (.getfield 29, 3) := by decide +kernel
theorem dX6_tellAll_38 : decode cX6_tellAll 38 = .ok (.istore 4, 2) := by decide +kernel
theorem dX6_tellAll_40 : decode cX6_tellAll 40 = .ok (.aload_n 0, 1) := by decide +kernel
theorem dX6_tellAll_41 : decode cX6_tellAll 41 = .ok (.invokevirtual 45, 3) := by decide +kernel
theorem dX6_tellAll_44 : decode cX6_tellAll 44 = .ok (.ifCond .eq 16, 3) := by decide +kernel
theorem dX6_tellAll_47 : decode cX6_tellAll 47 = .ok (.aload_n 0, 1) := by decide +kernel
theorem dX6_tellAll_48 : decode cX6_tellAll 48 = .ok (.aload_n 0, 1) := by decide +kernel
theorem dX6_tellAll_49 : decode cX6_tellAll 49 = .ok (.iload 4, 2) := by decide +kernel
theorem dX6_tellAll_51 : decode cX6_tellAll 51 = .ok (.invokevirtual 52, 3) := by decide +kernel
theorem dX6_tellAll_54 : decode cX6_tellAll 54 = .ok (.invokevirtual 56, 3) := by decide +kernel
theorem dX6_tellAll_57 : decode cX6_tellAll 57 = .ok (.ifCond .ne 10, 3) := by decide +kernel
theorem dX6_tellAll_60 : decode cX6_tellAll 60 = .ok (.sipush (-2000), 3) := by decide +kernel
theorem dX6_tellAll_63 : decode cX6_tellAll 63 = .ok (.iload 4, 2) := by decide +kernel
theorem dX6_tellAll_65 : decode cX6_tellAll 65 = .ok (.isub, 1) := by decide +kernel
theorem dX6_tellAll_66 : decode cX6_tellAll 66 = .ok (.ireturn, 1) := by decide +kernel
theorem dX6_tellAll_67 : decode cX6_tellAll 67 = .ok (.iinc 2 1, 3) := by decide +kernel
theorem dX6_tellAll_70 : decode cX6_tellAll 70 = .ok (.iinc 3 1, 3) := by decide +kernel
theorem dX6_tellAll_73 : decode cX6_tellAll 73 = .ok (.goto (-56), 3) := by decide +kernel
theorem dX6_tellAll_76 : decode cX6_tellAll 76 = .ok (.aload_n 1, 1) := by decide +kernel
theorem dX6_tellAll_77 : decode cX6_tellAll 77 = .ok (.aload_n 0, 1) := by decide +kernel
theorem dX6_tellAll_78 : decode cX6_tellAll 78 = .ok (.getfield 25, 3) := by decide +kernel
theorem dX6_tellAll_81 : decode cX6_tellAll 81 = .ok (.invokevirtual 48, 3) := by decide +kernel
theorem dX6_tellAll_84 : decode cX6_tellAll 84 = .ok (.iload_n 2, 1) := by decide +kernel
theorem dX6_tellAll_85 : decode cX6_tellAll 85 = .ok (.ireturn, 1) := by decide +kernel
theorem dX6_tell_0 : decode cX6_tell 0 = .ok (.iload_n 1, 1) := by decide +kernel
theorem dX6_tell_1 : decode cX6_tell 1 = .ok (.lookupswitch 129 #[(97, 77), (108, 63), (113, 103), (115, 43)], 43) := by decide +kernel
theorem dX6_tell_44 : decode cX6_tell 44 = .ok (.aload_n 0, 1) := by decide +kernel
theorem dX6_tell_45 : decode cX6_tell 45 = .ok (.getfield 25, 3) := by decide +kernel
theorem dX6_tell_48 : decode cX6_tell 48 = .ok (.aload_n 0, 1) := by decide +kernel
theorem dX6_tell_49 : decode cX6_tell 49 = .ok (.getfield 19, 3) := by decide +kernel
theorem dX6_tell_52 : decode cX6_tell 52 = .ok (.iconst 0, 1) := by decide +kernel
theorem dX6_tell_53 : decode cX6_tell 53 = .ok (.iaload, 1) := by decide +kernel
theorem dX6_tell_54 : decode cX6_tell 54 = .ok (.aload_n 0, 1) := by decide +kernel
theorem dX6_tell_55 : decode cX6_tell 55 = .ok (.getfield 19, 3) := by decide +kernel
theorem dX6_tell_58 : decode cX6_tell 58 = .ok (.iconst 1, 1) := by decide +kernel
theorem dX6_tell_59 : decode cX6_tell 59 = .ok (.iaload, 1) := by decide +kernel
theorem dX6_tell_60 : decode cX6_tell 60 = .ok (.invokevirtual 60, 3) := by decide +kernel
theorem dX6_tell_63 : decode cX6_tell 63 = .ok (.ireturn, 1) := by decide +kernel
theorem dX6_tell_64 : decode cX6_tell 64 = .ok (.aload_n 0, 1) := by decide +kernel
theorem dX6_tell_65 : decode cX6_tell 65 = .ok (.getfield 25, 3) := by decide +kernel
theorem dX6_tell_68 : decode cX6_tell 68 = .ok (.aload_n 0, 1) := by decide +kernel
theorem dX6_tell_69 : decode cX6_tell 69 = .ok (.getfield 19, 3) := by decide +kernel
theorem dX6_tell_72 : decode cX6_tell 72 = .ok (.iconst 0, 1) := by decide +kernel
theorem dX6_tell_73 : decode cX6_tell 73 = .ok (.iaload, 1) := by decide +kernel
theorem dX6_tell_74 : decode cX6_tell 74 = .ok (.invokevirtual 64, 3) := by decide +kernel
theorem dX6_tell_77 : decode cX6_tell 77 = .ok (.ireturn, 1) := by decide +kernel
theorem dX6_tell_78 : decode cX6_tell 78 = .ok (.aload_n 0, 1) := by decide +kernel
theorem dX6_tell_79 : decode cX6_tell 79 = .ok (.getfield 25, 3) := by decide +kernel
theorem dX6_tell_82 : decode cX6_tell 82 = .ok (.aload_n 0, 1) := by decide +kernel
theorem dX6_tell_83 : decode cX6_tell 83 = .ok (.getfield 19, 3) := by decide +kernel
theorem dX6_tell_86 : decode cX6_tell 86 = .ok (.iconst 0, 1) := by decide +kernel
theorem dX6_tell_87 : decode cX6_tell 87 = .ok (.iaload, 1) := by decide +kernel
theorem dX6_tell_88 : decode cX6_tell 88 = .ok (.aload_n 0, 1) := by decide +kernel
theorem dX6_tell_89 : decode cX6_tell 89 = .ok (.getfield 19, 3) := by decide +kernel
theorem dX6_tell_92 : decode cX6_tell 92 = .ok (.iconst 1, 1) := by decide +kernel
theorem dX6_tell_93 : decode cX6_tell 93 = .ok (.iaload, 1) := by decide +kernel
theorem dX6_tell_94 : decode cX6_tell 94 = .ok (.aload_n 0, 1) := by decide +kernel
theorem dX6_tell_95 : decode cX6_tell 95 = .ok (.getfield 19, 3) := by decide +kernel
theorem dX6_tell_98 : decode cX6_tell 98 = .ok (.iconst 2, 1) := by decide +kernel
theorem dX6_tell_99 : decode cX6_tell 99 = .ok (.iaload, 1) := by decide +kernel
theorem dX6_tell_100 : decode cX6_tell 100 = .ok (.invokevirtual 67, 3) := by decide +kernel
theorem dX6_tell_103 : decode cX6_tell 103 = .ok (.ireturn, 1) := by decide +kernel
theorem dX6_tell_104 : decode cX6_tell 104 = .ok (.aload_n 0, 1) := by decide +kernel
theorem dX6_tell_105 : decode cX6_tell 105 = .ok (.getfield 25, 3) := by decide +kernel
theorem dX6_tell_108 : decode cX6_tell 108 = .ok (.aload_n 0, 1) := by decide +kernel
theorem dX6_tell_109 : decode cX6_tell 109 = .ok (.getfield 19, 3) := by decide +kernel
theorem dX6_tell_112 : decode cX6_tell 112 = .ok (.iconst 0, 1) := by decide +kernel
theorem dX6_tell_113 : decode cX6_tell 113 = .ok (.iaload, 1) := by decide +kernel
theorem dX6_tell_114 : decode cX6_tell 114 = .ok (.aload_n 0, 1) := by decide +kernel
theorem dX6_tell_115 : decode cX6_tell 115 = .ok (.getfield 19, 3) := by decide +kernel
theorem dX6_tell_118 : decode cX6_tell 118 = .ok (.iconst 1, 1) := by decide +kernel
theorem dX6_tell_119 : decode cX6_tell 119 = .ok (.iaload, 1) := by decide +kernel
theorem dX6_tell_120 : decode cX6_tell 120 = .ok (.aload_n 0, 1) := by decide +kernel
theorem dX6_tell_121 : decode cX6_tell 121 = .ok (.getfield 19, 3) := by decide +kernel
theorem dX6_tell_124 : decode cX6_tell 124 = .ok (.iconst 2, 1) := by decide +kernel
theorem dX6_tell_125 : decode cX6_tell 125 = .ok (.iaload, 1) := by decide +kernel
theorem dX6_tell_126 : decode cX6_tell 126 = .ok (.invokevirtual 71, 3) := by decide +kernel
theorem dX6_tell_129 : decode cX6_tell 129 = .ok (.ireturn, 1) := by decide +kernel
theorem dX6_tell_130 : decode cX6_tell 130 = .ok (.iconst 0, 1) := by decide +kernel
theorem dX6_tell_131 : decode cX6_tell 131 = .ok (.ireturn, 1) := by decide +kernel
theorem dX6_readStatement_0 : decode cX6_readStatement 0 = .ok (.aload_n 0, 1) := by decide +kernel
theorem dX6_readStatement_1 : decode cX6_readStatement 1 = .ok (.aload_n 0, 1) := by decide +kernel
theorem dX6_readStatement_2 : decode cX6_readStatement 2 = .ok (.getfield 29, 3) := by decide +kernel
theorem dX6_readStatement_5 : decode cX6_readStatement 5 = .ok (.invokevirtual 52, 3) := by decide +kernel
theorem dX6_readStatement_8 : decode cX6_readStatement 8 = .ok (.invokestatic 74, 3) := by decide +kernel
theorem dX6_readStatement_11 : decode cX6_readStatement 11 = .ok (.astore_n 1, 1) := by decide +kernel
theorem dX6_readStatement_12 : decode cX6_readStatement 12 = .ok (.aload_n 1, 1) := by decide +kernel
theorem dX6_readStatement_13 : decode cX6_readStatement 13 = .ok (.invokevirtual 78, 3) := by decide +kernel
theorem dX6_readStatement_16 : decode cX6_readStatement 16 = .ok (.ifCond .eq 5, 3) := by decide +kernel
theorem dX6_readStatement_19 : decode cX6_readStatement 19 = .ok (.iconst 0, 1) := by decide +kernel
theorem dX6_readStatement_20 : decode cX6_readStatement 20 = .ok (.ireturn, 1) := by decide +kernel
theorem dX6_readStatement_21 : decode cX6_readStatement 21 = .ok (.aload_n 0, 1) := by decide +kernel
theorem dX6_readStatement_22 : decode cX6_readStatement 22 = .ok (.dup, 1) := by decide +kernel
theorem dX6_readStatement_23 : decode cX6_readStatement 23 = .ok (.getfield 29, 3) := by decide +kernel
theorem dX6_readStatement_26 : decode cX6_readStatement 26 = .ok (.iconst 1, 1) := by decide +kernel
theorem dX6_readStatement_27 : decode cX6_readStatement 27 = .ok (.iadd, 1) := by decide +kernel
theorem dX6_readStatement_28 : decode cX6_readStatement 28 = .ok (.putfield 29, 3) := by decide +kernel
theorem dX6_readStatement_31 : decode cX6_readStatement 31 = .ok (.aload_n 0, 1) := by decide +kernel
theorem dX6_readStatement_32 : decode cX6_readStatement 32 = .ok (.iconst 0, 1) := by decide +kernel
theorem dX6_readStatement_33 : decode cX6_readStatement 33 = .ok (.putfield 32, 3) := by decide +kernel
theorem dX6_readStatement_36 : decode cX6_readStatement 36 = .ok (.iconst 0, 1) := by decide +kernel
theorem dX6_readStatement_37 : decode cX6_readStatement 37 = .ok (.istore_n 2, 1) := by decide +kernel
theorem dX6_readStatement_38 : decode cX6_readStatement 38 = .ok (.iload_n 2, 1) := by decide +kernel
theorem dX6_readStatement_39 : decode cX6_readStatement 39 = .ok (.aload_n 1, 1) := by decide +kernel
theorem dX6_readStatement_40 : decode cX6_readStatement 40 = .ok (.invokevirtual 83, 3) := by decide +kernel
theorem dX6_readStatement_43 : decode cX6_readStatement 43 = .ok (.if_icmp .ge 23, 3) := by decide +kernel
theorem dX6_readStatement_46 : decode cX6_readStatement 46 = .ok (.aload_n 0, 1) := by decide +kernel
theorem dX6_readStatement_47 : decode cX6_readStatement 47 = .ok (.aload_n 1, 1) := by decide +kernel
theorem dX6_readStatement_48 : decode cX6_readStatement 48 = .ok (.iload_n 2, 1) := by decide +kernel
theorem dX6_readStatement_49 : decode cX6_readStatement 49 = .ok (.invokevirtual 87, 3) := by decide +kernel
theorem dX6_readStatement_52 : decode cX6_readStatement 52 = .ok (.invokevirtual 91, 3) := by decide +kernel
theorem dX6_readStatement_55 : decode cX6_readStatement 55 = .ok (.ifCond .ne 5, 3) := by decide +kernel
theorem dX6_readStatement_58 : decode cX6_readStatement 58 = .ok (.iconst 0, 1) := by decide +kernel
theorem dX6_readStatement_59 : decode cX6_readStatement 59 = .ok (.ireturn, 1) := by decide +kernel
theorem dX6_readStatement_60 : decode cX6_readStatement 60 = .ok (.iinc 2 1, 3) := by decide +kernel
theorem dX6_readStatement_63 : decode cX6_readStatement 63 = .ok (.goto (-25), 3) := by decide +kernel
theorem dX6_readStatement_66 : decode cX6_readStatement 66 = .ok (.iconst 1, 1) := by decide +kernel
theorem dX6_readStatement_67 : decode cX6_readStatement 67 = .ok (.ireturn, 1) := by decide +kernel
theorem dX6_formOf_0 : decode cX6_formOf 0 = .ok (.iload_n 0, 1) := by decide +kernel
theorem dX6_formOf_1 : decode cX6_formOf 1 = .ok (.lookupswitch 52 #[(97, 49), (108, 46), (113, 49), (115, 43)], 43) := by decide +kernel
theorem dX6_formOf_44 : decode cX6_formOf 44 = .ok (.ldc 95, 2) := by decide +kernel
theorem dX6_formOf_46 : decode cX6_formOf 46 = .ok (.areturn, 1) := by decide +kernel
theorem dX6_formOf_47 : decode cX6_formOf 47 = .ok (.ldc 97, 2) := by decide +kernel
theorem dX6_formOf_49 : decode cX6_formOf 49 = .ok (.areturn, 1) := by decide +kernel
theorem dX6_formOf_50 : decode cX6_formOf 50 = .ok (.ldc 99, 2) := by decide +kernel
theorem dX6_formOf_52 : decode cX6_formOf 52 = .ok (.areturn, 1) := by decide +kernel
theorem dX6_formOf_53 : decode cX6_formOf 53 = .ok (.ldc 101, 2) := by decide +kernel
theorem dX6_formOf_55 : decode cX6_formOf 55 = .ok (.areturn, 1) := by decide +kernel
theorem dX6_readPart_0 : decode cX6_readPart 0 = .ok (.iload_n 1, 1) := by decide +kernel
theorem dX6_readPart_1 : decode cX6_readPart 1 = .ok (.bipush 100, 2) := by decide +kernel
theorem dX6_readPart_3 : decode cX6_readPart 3 = .ok (.if_icmp .ne 9, 3) := by decide +kernel
theorem dX6_readPart_6 : decode cX6_readPart 6 = .ok (.aload_n 0, 1) := by decide +kernel
theorem dX6_readPart_7 : decode cX6_readPart 7 = .ok (.iconst 1, 1) := by decide +kernel
theorem dX6_readPart_8 : decode cX6_readPart 8 = .ok (.invokevirtual 103, 3) := by decide +kernel
theorem dX6_readPart_11 : decode cX6_readPart 11 = .ok (.ireturn, 1) := by decide +kernel
theorem dX6_readPart_12 : decode cX6_readPart 12 = .ok (.iload_n 1, 1) := by decide +kernel
theorem dX6_readPart_13 : decode cX6_readPart 13 = .ok (.bipush 110, 2) := by decide +kernel
theorem dX6_readPart_15 : decode cX6_readPart 15 = .ok (.if_icmp .ne 9, 3) := by decide +kernel
theorem dX6_readPart_18 : decode cX6_readPart 18 = .ok (.aload_n 0, 1) := by decide +kernel
theorem dX6_readPart_19 : decode cX6_readPart 19 = .ok (.iconst 2, 1) := by decide +kernel
theorem dX6_readPart_20 : decode cX6_readPart 20 = .ok (.invokevirtual 103, 3) := by decide +kernel
theorem dX6_readPart_23 : decode cX6_readPart 23 = .ok (.ireturn, 1) := by decide +kernel
theorem dX6_readPart_24 : decode cX6_readPart 24 = .ok (.aload_n 0, 1) := by decide +kernel
theorem dX6_readPart_25 : decode cX6_readPart 25 = .ok (.aload_n 0, 1) := by decide +kernel
theorem dX6_readPart_26 : decode cX6_readPart 26 = .ok (.getfield 29, 3) := by decide +kernel
theorem dX6_readPart_29 : decode cX6_readPart 29 = .ok (.invokevirtual 52, 3) := by decide +kernel
theorem dX6_readPart_32 : decode cX6_readPart 32 = .ok (.iload_n 1, 1) := by decide +kernel
theorem dX6_readPart_33 : decode cX6_readPart 33 = .ok (.if_icmp .eq 5, 3) := by decide +kernel
theorem dX6_readPart_36 : decode cX6_readPart 36 = .ok (.iconst 0, 1) := by decide +kernel
theorem dX6_readPart_37 : decode cX6_readPart 37 = .ok (.ireturn, 1) := by decide +kernel
theorem dX6_readPart_38 : decode cX6_readPart 38 = .ok (.aload_n 0, 1) := by decide +kernel
theorem dX6_readPart_39 : decode cX6_readPart 39 = .ok (.dup, 1) := by decide +kernel
theorem dX6_readPart_40 : decode cX6_readPart 40 = .ok (.getfield 29, 3) := by decide +kernel
theorem dX6_readPart_43 : decode cX6_readPart 43 = .ok (.iconst 1, 1) := by decide +kernel
theorem dX6_readPart_44 : decode cX6_readPart 44 = .ok (.iadd, 1) := by decide +kernel
theorem dX6_readPart_45 : decode cX6_readPart 45 = .ok (.putfield 29, 3) := by decide +kernel
theorem dX6_readPart_48 : decode cX6_readPart 48 = .ok (.iconst 1, 1) := by decide +kernel
theorem dX6_readPart_49 : decode cX6_readPart 49 = .ok (.ireturn, 1) := by decide +kernel
theorem dX6_readNumber_0 : decode cX6_readNumber 0 = .ok (.aload_n 0, 1) := by decide +kernel
theorem dX6_readNumber_1 : decode cX6_readNumber 1 = .ok (.aload_n 0, 1) := by decide +kernel
theorem dX6_readNumber_2 : decode cX6_readNumber 2 = .ok (.getfield 29, 3) := by decide +kernel
theorem dX6_readNumber_5 : decode cX6_readNumber 5 = .ok (.invokevirtual 52, 3) := by decide +kernel
theorem dX6_readNumber_8 : decode cX6_readNumber 8 = .ok (.invokestatic 106, 3) := by decide +kernel
theorem dX6_readNumber_11 : decode cX6_readNumber 11 = .ok (.ifCond .eq 11, 3) := by decide +kernel
theorem dX6_readNumber_14 : decode cX6_readNumber 14 = .ok (.aload_n 0, 1) := by decide +kernel
theorem dX6_readNumber_15 : decode cX6_readNumber 15 = .ok (.getfield 32, 3) := by decide +kernel
theorem dX6_readNumber_18 : decode cX6_readNumber 18 = .ok (.iconst 3, 1) := by decide +kernel
theorem dX6_readNumber_19 : decode cX6_readNumber 19 = .ok (.if_icmp .lt 5, 3) := by decide +kernel
theorem dX6_readNumber_22 : decode cX6_readNumber 22 = .ok (.iconst 0, 1) := by decide +kernel
theorem dX6_readNumber_23 : decode cX6_readNumber 23 = .ok (.ireturn, 1) := by decide +kernel
theorem dX6_readNumber_24 : decode cX6_readNumber 24 = .ok (.iconst 0, 1) := by decide +kernel
theorem dX6_readNumber_25 : decode cX6_readNumber 25 = .ok (.istore_n 2, 1) := by decide +kernel
theorem dX6_readNumber_26 : decode cX6_readNumber 26 = .ok (.iconst 0, 1) := by decide +kernel
theorem dX6_readNumber_27 : decode cX6_readNumber 27 = .ok (.istore_n 3, 1) := by decide +kernel
theorem dX6_readNumber_28 : decode cX6_readNumber 28 = .ok (.iload_n 3, 1) := by decide +kernel
theorem dX6_readNumber_29 : decode cX6_readNumber 29 = .ok (.iload_n 1, 1) := by decide +kernel
theorem dX6_readNumber_30 : decode cX6_readNumber 30 = .ok (.if_icmp .ge 50, 3) := by decide +kernel
theorem dX6_readNumber_33 : decode cX6_readNumber 33 = .ok (.aload_n 0, 1) := by decide +kernel
theorem dX6_readNumber_34 : decode cX6_readNumber 34 = .ok (.aload_n 0, 1) := by decide +kernel
theorem dX6_readNumber_35 : decode cX6_readNumber 35 = .ok (.getfield 29, 3) := by decide +kernel
theorem dX6_readNumber_38 : decode cX6_readNumber 38 = .ok (.invokevirtual 52, 3) := by decide +kernel
theorem dX6_readNumber_41 : decode cX6_readNumber 41 = .ok (.invokestatic 106, 3) := by decide +kernel
theorem dX6_readNumber_44 : decode cX6_readNumber 44 = .ok (.ifCond .eq 36, 3) := by decide +kernel
theorem dX6_readNumber_47 : decode cX6_readNumber 47 = .ok (.iload_n 2, 1) := by decide +kernel
theorem dX6_readNumber_48 : decode cX6_readNumber 48 = .ok (.bipush 10, 2) := by decide +kernel
theorem dX6_readNumber_50 : decode cX6_readNumber 50 = .ok (.imul, 1) := by decide +kernel
theorem dX6_readNumber_51 : decode cX6_readNumber 51 = .ok (.aload_n 0, 1) := by decide +kernel
theorem dX6_readNumber_52 : decode cX6_readNumber 52 = .ok (.aload_n 0, 1) := by decide +kernel
theorem dX6_readNumber_53 : decode cX6_readNumber 53 = .ok (.getfield 29, 3) := by decide +kernel
theorem dX6_readNumber_56 : decode cX6_readNumber 56 = .ok (.invokevirtual 52, 3) := by decide +kernel
theorem dX6_readNumber_59 : decode cX6_readNumber 59 = .ok (.iadd, 1) := by decide +kernel
theorem dX6_readNumber_60 : decode cX6_readNumber 60 = .ok (.bipush 48, 2) := by decide +kernel
theorem dX6_readNumber_62 : decode cX6_readNumber 62 = .ok (.isub, 1) := by decide +kernel
theorem dX6_readNumber_63 : decode cX6_readNumber 63 = .ok (.istore_n 2, 1) := by decide +kernel
theorem dX6_readNumber_64 : decode cX6_readNumber 64 = .ok (.aload_n 0, 1) := by decide +kernel
theorem dX6_readNumber_65 : decode cX6_readNumber 65 = .ok (.dup, 1) := by decide +kernel
theorem dX6_readNumber_66 : decode cX6_readNumber 66 = .ok (.getfield 29, 3) := by decide +kernel
theorem dX6_readNumber_69 : decode cX6_readNumber 69 = .ok (.iconst 1, 1) := by decide +kernel
theorem dX6_readNumber_70 : decode cX6_readNumber 70 = .ok (.iadd, 1) := by decide +kernel
theorem dX6_readNumber_71 : decode cX6_readNumber 71 = .ok (.putfield 29, 3) := by decide +kernel
theorem dX6_readNumber_74 : decode cX6_readNumber 74 = .ok (.iinc 3 1, 3) := by decide +kernel
theorem dX6_readNumber_77 : decode cX6_readNumber 77 = .ok (.goto (-49), 3) := by decide +kernel
theorem dX6_readNumber_80 : decode cX6_readNumber 80 = .ok (.aload_n 0, 1) := by decide +kernel
theorem dX6_readNumber_81 : decode cX6_readNumber 81 = .ok (.getfield 19, 3) := by decide +kernel
theorem dX6_readNumber_84 : decode cX6_readNumber 84 = .ok (.aload_n 0, 1) := by decide +kernel
theorem dX6_readNumber_85 : decode cX6_readNumber 85 = .ok (.getfield 32, 3) := by decide +kernel
theorem dX6_readNumber_88 : decode cX6_readNumber 88 = .ok (.iload_n 2, 1) := by decide +kernel
theorem dX6_readNumber_89 : decode cX6_readNumber 89 = .ok (.iastore, 1) := by decide +kernel
theorem dX6_readNumber_90 : decode cX6_readNumber 90 = .ok (.aload_n 0, 1) := by decide +kernel
theorem dX6_readNumber_91 : decode cX6_readNumber 91 = .ok (.dup, 1) := by decide +kernel
theorem dX6_readNumber_92 : decode cX6_readNumber 92 = .ok (.getfield 32, 3) := by decide +kernel
theorem dX6_readNumber_95 : decode cX6_readNumber 95 = .ok (.iconst 1, 1) := by decide +kernel
theorem dX6_readNumber_96 : decode cX6_readNumber 96 = .ok (.iadd, 1) := by decide +kernel
theorem dX6_readNumber_97 : decode cX6_readNumber 97 = .ok (.putfield 32, 3) := by decide +kernel
theorem dX6_readNumber_100 : decode cX6_readNumber 100 = .ok (.iconst 1, 1) := by decide +kernel
theorem dX6_readNumber_101 : decode cX6_readNumber 101 = .ok (.ireturn, 1) := by decide +kernel
theorem dX6_at_0 : decode cX6_at 0 = .ok (.iload_n 1, 1) := by decide +kernel
theorem dX6_at_1 : decode cX6_at 1 = .ok (.ifCond .lt 26, 3) := by decide +kernel
theorem dX6_at_4 : decode cX6_at 4 = .ok (.iload_n 1, 1) := by decide +kernel
theorem dX6_at_5 : decode cX6_at 5 = .ok (.aload_n 0, 1) := by decide +kernel
theorem dX6_at_6 : decode cX6_at 6 = .ok (.getfield 9, 3) := by decide +kernel
theorem dX6_at_9 : decode cX6_at 9 = .ok (.if_icmp .ge 18, 3) := by decide +kernel
theorem dX6_at_12 : decode cX6_at 12 = .ok (.iload_n 1, 1) := by decide +kernel
theorem dX6_at_13 : decode cX6_at 13 = .ok (.bipush 64, 2) := by decide +kernel
theorem dX6_at_15 : decode cX6_at 15 = .ok (.if_icmp .ge 12, 3) := by decide +kernel
theorem dX6_at_18 : decode cX6_at 18 = .ok (.aload_n 0, 1) := by decide +kernel
theorem dX6_at_19 : decode cX6_at 19 = .ok (.getfield 15, 3) := by decide +kernel
theorem dX6_at_22 : decode cX6_at 22 = .ok (.iload_n 1, 1) := by decide +kernel
theorem dX6_at_23 : decode cX6_at 23 = .ok (.iaload, 1) := by decide +kernel
theorem dX6_at_24 : decode cX6_at 24 = .ok (.goto 4, 3) := by decide +kernel
theorem dX6_at_27 : decode cX6_at 27 = .ok (.iconst (-1), 1) := by decide +kernel
theorem dX6_at_28 : decode cX6_at 28 = .ok (.ireturn, 1) := by decide +kernel
theorem dX6_isDigit_0 : decode cX6_isDigit 0 = .ok (.iload_n 0, 1) := by decide +kernel
theorem dX6_isDigit_1 : decode cX6_isDigit 1 = .ok (.bipush 48, 2) := by decide +kernel
theorem dX6_isDigit_3 : decode cX6_isDigit 3 = .ok (.if_icmp .lt 13, 3) := by decide +kernel
theorem dX6_isDigit_6 : decode cX6_isDigit 6 = .ok (.iload_n 0, 1) := by decide +kernel
theorem dX6_isDigit_7 : decode cX6_isDigit 7 = .ok (.bipush 57, 2) := by decide +kernel
theorem dX6_isDigit_9 : decode cX6_isDigit 9 = .ok (.if_icmp .gt 7, 3) := by decide +kernel
theorem dX6_isDigit_12 : decode cX6_isDigit 12 = .ok (.iconst 1, 1) := by decide +kernel
theorem dX6_isDigit_13 : decode cX6_isDigit 13 = .ok (.goto 4, 3) := by decide +kernel
theorem dX6_isDigit_16 : decode cX6_isDigit 16 = .ok (.iconst 0, 1) := by decide +kernel
theorem dX6_isDigit_17 : decode cX6_isDigit 17 = .ok (.ireturn, 1) := by decide +kernel
theorem dX7_weaveNow_0 : decode cX7_weaveNow 0 = .ok (.aload_n 0, 1) := by decide +kernel
theorem dX7_weaveNow_1 : decode cX7_weaveNow 1 = .ok (.invokevirtual 22, 3) := by decide +kernel
theorem dX7_weaveNow_4 : decode cX7_weaveNow 4 = .ok (.aload_n 0, 1) := by decide +kernel
theorem dX7_weaveNow_5 : decode cX7_weaveNow 5 = .ok (.aload_n 1, 1) := by decide +kernel
theorem dX7_weaveNow_6 : decode cX7_weaveNow 6 = .ok (.invokevirtual 25, 3) := by decide +kernel
theorem dX7_weaveNow_9 : decode cX7_weaveNow 9 = .ok (.ireturn, 1) := by decide +kernel
theorem dX7_findBest_0 : decode cX7_findBest 0 = .ok (.aload_n 0, 1) := by decide +kernel
theorem dX7_findBest_1 : decode cX7_findBest 1 = .ok (.invokevirtual 22, 3) := by decide +kernel
theorem dX7_findBest_4 : decode cX7_findBest 4 = .ok (.aload_n 0, 1) := by decide +kernel
theorem dX7_findBest_5 : decode cX7_findBest 5 = .ok (.aload_n 0, 1) := by decide +kernel
theorem dX7_findBest_6 : decode cX7_findBest 6 = .ok (.aload_n 1, 1) := by decide +kernel
theorem dX7_findBest_7 : decode cX7_findBest 7 = .ok (.invokevirtual 25, 3) := by decide +kernel
theorem dX7_findBest_10 : decode cX7_findBest 10 = .ok (.invokevirtual 29, 3) := by decide +kernel
theorem dX7_findBest_13 : decode cX7_findBest 13 = .ok (.iconst 0, 1) := by decide +kernel
theorem dX7_findBest_14 : decode cX7_findBest 14 = .ok (.istore_n 2, 1) := by decide +kernel
theorem dX7_findBest_15 : decode cX7_findBest 15 = .ok (.iload_n 2, 1) := by decide +kernel
theorem dX7_findBest_16 : decode cX7_findBest 16 = .ok (.sipush 720, 3) := by decide +kernel
theorem dX7_findBest_19 : decode cX7_findBest 19 = .ok (.if_icmp .ge 39, 3) := by decide +kernel
theorem dX7_findBest_22 : decode cX7_findBest 22 = .ok (.aload_n 0, 1) := by decide +kernel
theorem dX7_findBest_23 : decode cX7_findBest 23 = .ok (.aload_n 1, 1) := by decide +kernel
theorem dX7_findBest_24 : decode cX7_findBest 24 = .ok (.getfield 33, 3) := by decide +kernel
theorem dX7_findBest_27 : decode cX7_findBest 27 = .ok (.invokevirtual 37, 3) := by decide +kernel
theorem dX7_findBest_30 : decode cX7_findBest 30 = .ok (.ifCond .eq 28, 3) := by decide +kernel
theorem dX7_findBest_33 : decode cX7_findBest 33 = .ok (.aload_n 0, 1) := by decide +kernel
theorem dX7_findBest_34 : decode cX7_findBest 34 = .ok (.aload_n 1, 1) := by decide +kernel
theorem dX7_findBest_35 : decode cX7_findBest 35 = .ok (.invokevirtual 25, 3) := by decide +kernel
theorem dX7_findBest_38 : decode cX7_findBest 38 = .ok (.istore_n 3, 1) := by decide +kernel
theorem dX7_findBest_39 : decode cX7_findBest 39 = .ok (.iload_n 3, 1) := by decide +kernel
theorem dX7_findBest_40 : decode cX7_findBest 40 = .ok (.aload_n 0, 1) := by decide +kernel
theorem dX7_findBest_41 : decode cX7_findBest 41 = .ok (.getfield 18, 3) := by decide +kernel
theorem dX7_findBest_44 : decode cX7_findBest 44 = .ok (.if_icmp .ge 8, 3) := by decide +kernel
theorem dX7_findBest_47 : decode cX7_findBest 47 = .ok (.aload_n 0, 1) := by decide +kernel
theorem dX7_findBest_48 : decode cX7_findBest 48 = .ok (.iload_n 3, 1) := by decide +kernel
theorem dX7_findBest_49 : decode cX7_findBest 49 = .ok (.invokevirtual 29, 3) := by decide +kernel
theorem dX7_findBest_52 : decode cX7_findBest 52 = .ok (.iinc 2 1, 3) := by decide +kernel
theorem dX7_findBest_55 : decode cX7_findBest 55 = .ok (.goto (-40), 3) := by decide +kernel
theorem dX7_findBest_58 : decode cX7_findBest 58 = .ok (.return_, 1) := by decide +kernel
theorem dX7_startOrder_0 : decode cX7_startOrder 0 = .ok (.iconst 0, 1) := by decide +kernel
theorem dX7_startOrder_1 : decode cX7_startOrder 1 = .ok (.istore_n 1, 1) := by decide +kernel
theorem dX7_startOrder_2 : decode cX7_startOrder 2 = .ok (.iload_n 1, 1) := by decide +kernel
theorem dX7_startOrder_3 : decode cX7_startOrder 3 = .ok (.bipush 6, 2) := by decide +kernel
theorem dX7_startOrder_5 : decode cX7_startOrder 5 = .ok (.if_icmp .ge 16, 3) := by decide +kernel
theorem dX7_startOrder_8 : decode cX7_startOrder 8 = .ok (.aload_n 0, 1) := by decide +kernel
theorem dX7_startOrder_9 : decode cX7_startOrder 9 = .ok (.getfield 15, 3) := by decide +kernel
theorem dX7_startOrder_12 : decode cX7_startOrder 12 = .ok (.iload_n 1, 1) := by decide +kernel
theorem dX7_startOrder_13 : decode cX7_startOrder 13 = .ok (.iload_n 1, 1) := by decide +kernel
theorem dX7_startOrder_14 : decode cX7_startOrder 14 = .ok (.iastore, 1) := by decide +kernel
theorem dX7_startOrder_15 : decode cX7_startOrder 15 = .ok (.iinc 1 1, 3) := by decide +kernel
theorem dX7_startOrder_18 : decode cX7_startOrder 18 = .ok (.goto (-16), 3) := by decide +kernel
theorem dX7_startOrder_21 : decode cX7_startOrder 21 = .ok (.return_, 1) := by decide +kernel
theorem dX7_keep_0 : decode cX7_keep 0 = .ok (.aload_n 0, 1) := by decide +kernel
theorem dX7_keep_1 : decode cX7_keep 1 = .ok (.iload_n 1, 1) := by decide +kernel
theorem dX7_keep_2 : decode cX7_keep 2 = .ok (.putfield 18, 3) := by decide +kernel
theorem dX7_keep_5 : decode cX7_keep 5 = .ok (.aload_n 0, 1) := by decide +kernel
theorem dX7_keep_6 : decode cX7_keep 6 = .ok (.getfield 15, 3) := by decide +kernel
theorem dX7_keep_9 : decode cX7_keep 9 = .ok (.iconst 0, 1) := by decide +kernel
theorem dX7_keep_10 : decode cX7_keep 10 = .ok (.aload_n 0, 1) := by decide +kernel
theorem dX7_keep_11 : decode cX7_keep 11 = .ok (.getfield 9, 3) := by decide +kernel
theorem dX7_keep_14 : decode cX7_keep 14 = .ok (.iconst 0, 1) := by decide +kernel
theorem dX7_keep_15 : decode cX7_keep 15 = .ok (.bipush 6, 2) := by decide +kernel
theorem dX7_keep_17 : decode cX7_keep 17 = .ok (.invokestatic 41, 3) := by decide +kernel
theorem dX7_keep_20 : decode cX7_keep 20 = .ok (.return_, 1) := by decide +kernel
theorem dX7_weaveOf_0 : decode cX7_weaveOf 0 = .ok (.iconst 0, 1) := by decide +kernel
theorem dX7_weaveOf_1 : decode cX7_weaveOf 1 = .ok (.istore_n 2, 1) := by decide +kernel
theorem dX7_weaveOf_2 : decode cX7_weaveOf 2 = .ok (.iconst 0, 1) := by decide +kernel
theorem dX7_weaveOf_3 : decode cX7_weaveOf 3 = .ok (.istore_n 3, 1) := by decide +kernel
theorem dX7_weaveOf_4 : decode cX7_weaveOf 4 = .ok (.iload_n 3, 1) := by decide +kernel
theorem dX7_weaveOf_5 : decode cX7_weaveOf 5 = .ok (.iconst 1, 1) := by decide +kernel
theorem dX7_weaveOf_6 : decode cX7_weaveOf 6 = .ok (.iadd, 1) := by decide +kernel
theorem dX7_weaveOf_7 : decode cX7_weaveOf 7 = .ok (.aload_n 1, 1) := by decide +kernel
theorem dX7_weaveOf_8 : decode cX7_weaveOf 8 = .ok (.getfield 33, 3) := by decide +kernel
theorem dX7_weaveOf_11 : decode cX7_weaveOf 11 = .ok (.if_icmp .ge 40, 3) := by decide +kernel
theorem dX7_weaveOf_14 : decode cX7_weaveOf 14 = .ok (.iload_n 2, 1) := by decide +kernel
theorem dX7_weaveOf_15 : decode cX7_weaveOf 15 = .ok (.aload_n 1, 1) := by decide +kernel
theorem dX7_weaveOf_16 : decode cX7_weaveOf 16 = .ok (.aload_n 0, 1) := by decide +kernel
theorem dX7_weaveOf_17 : decode cX7_weaveOf 17 = .ok (.getfield 15, 3) := by decide +kernel
theorem dX7_weaveOf_20 : decode cX7_weaveOf 20 = .ok (.iload_n 3, 1) := by decide +kernel
theorem dX7_weaveOf_21 : decode cX7_weaveOf 21 = .ok (.iaload, 1) := by decide +kernel
theorem dX7_weaveOf_22 : decode cX7_weaveOf 22 = .ok (.iconst 0, 1) := by decide +kernel
theorem dX7_weaveOf_23 : decode cX7_weaveOf 23 = .ok (.invokevirtual 47, 3) := by decide +kernel
theorem dX7_weaveOf_26 : decode cX7_weaveOf 26 = .ok (.aload_n 1, 1) := by decide +kernel
theorem dX7_weaveOf_27 : decode cX7_weaveOf 27 = .ok (.aload_n 0, 1) := by decide +kernel
theorem dX7_weaveOf_28 : decode cX7_weaveOf 28 = .ok (.getfield 15, 3) := by decide +kernel
theorem dX7_weaveOf_31 : decode cX7_weaveOf 31 = .ok (.iload_n 3, 1) := by decide +kernel
theorem dX7_weaveOf_32 : decode cX7_weaveOf 32 = .ok (.iconst 1, 1) := by decide +kernel
theorem dX7_weaveOf_33 : decode cX7_weaveOf 33 = .ok (.iadd, 1) := by decide +kernel
theorem dX7_weaveOf_34 : decode cX7_weaveOf 34 = .ok (.iaload, 1) := by decide +kernel
theorem dX7_weaveOf_35 : decode cX7_weaveOf 35 = .ok (.iconst 0, 1) := by decide +kernel
theorem dX7_weaveOf_36 : decode cX7_weaveOf 36 = .ok (.invokevirtual 47, 3) := by decide +kernel
theorem dX7_weaveOf_39 : decode cX7_weaveOf 39 = .ok (.ixor, 1) := by decide +kernel
theorem dX7_weaveOf_40 : decode cX7_weaveOf 40 = .ok (.invokestatic 51, 3) := by decide +kernel
theorem dX7_weaveOf_43 : decode cX7_weaveOf 43 = .ok (.iadd, 1) := by decide +kernel
theorem dX7_weaveOf_44 : decode cX7_weaveOf 44 = .ok (.istore_n 2, 1) := by decide +kernel
theorem dX7_weaveOf_45 : decode cX7_weaveOf 45 = .ok (.iinc 3 1, 3) := by decide +kernel
theorem dX7_weaveOf_48 : decode cX7_weaveOf 48 = .ok (.goto (-44), 3) := by decide +kernel
theorem dX7_weaveOf_51 : decode cX7_weaveOf 51 = .ok (.iload_n 2, 1) := by decide +kernel
theorem dX7_weaveOf_52 : decode cX7_weaveOf 52 = .ok (.ireturn, 1) := by decide +kernel
theorem dX7_nextOrder_0 : decode cX7_nextOrder 0 = .ok (.iload_n 1, 1) := by decide +kernel
theorem dX7_nextOrder_1 : decode cX7_nextOrder 1 = .ok (.iconst 2, 1) := by decide +kernel
theorem dX7_nextOrder_2 : decode cX7_nextOrder 2 = .ok (.isub, 1) := by decide +kernel
theorem dX7_nextOrder_3 : decode cX7_nextOrder 3 = .ok (.istore_n 2, 1) := by decide +kernel
theorem dX7_nextOrder_4 : decode cX7_nextOrder 4 = .ok (.iload_n 2, 1) := by decide +kernel
theorem dX7_nextOrder_5 : decode cX7_nextOrder 5 = .ok (.ifCond .lt 26, 3) := by decide +kernel
theorem dX7_nextOrder_8 : decode cX7_nextOrder 8 = .ok (.aload_n 0, 1) := by decide +kernel
theorem dX7_nextOrder_9 : decode cX7_nextOrder 9 = .ok (.getfield 15, 3) := by decide +kernel
theorem dX7_nextOrder_12 : decode cX7_nextOrder 12 = .ok (.iload_n 2, 1) := by decide +kernel
theorem dX7_nextOrder_13 : decode cX7_nextOrder 13 = .ok (.iaload, 1) := by decide +kernel
theorem dX7_nextOrder_14 : decode cX7_nextOrder 14 = .ok (.aload_n 0, 1) := by decide +kernel
theorem dX7_nextOrder_15 : decode cX7_nextOrder 15 = .ok (.getfield 15, 3) := by decide +kernel
theorem dX7_nextOrder_18 : decode cX7_nextOrder 18 = .ok (.iload_n 2, 1) := by decide +kernel
theorem dX7_nextOrder_19 : decode cX7_nextOrder 19 = .ok (.iconst 1, 1) := by decide +kernel
theorem dX7_nextOrder_20 : decode cX7_nextOrder 20 = .ok (.iadd, 1) := by decide +kernel
theorem dX7_nextOrder_21 : decode cX7_nextOrder 21 = .ok (.iaload, 1) := by decide +kernel
theorem dX7_nextOrder_22 : decode cX7_nextOrder 22 = .ok (.if_icmp .le 9, 3) := by decide +kernel
theorem dX7_nextOrder_25 : decode cX7_nextOrder 25 = .ok (.iinc 2 (-1), 3) := by decide +kernel
theorem dX7_nextOrder_28 : decode cX7_nextOrder 28 = .ok (.goto (-24), 3) := by decide +kernel
theorem dX7_nextOrder_31 : decode cX7_nextOrder 31 = .ok (.iload_n 2, 1) := by decide +kernel
theorem dX7_nextOrder_32 : decode cX7_nextOrder 32 = .ok (.ifCond .ge 5, 3) := by decide +kernel
theorem dX7_nextOrder_35 : decode cX7_nextOrder 35 = .ok (.iconst 0, 1) := by decide +kernel
theorem dX7_nextOrder_36 : decode cX7_nextOrder 36 = .ok (.ireturn, 1) := by decide +kernel
theorem dX7_nextOrder_37 : decode cX7_nextOrder 37 = .ok (.iload_n 1, 1) := by decide +kernel
theorem dX7_nextOrder_38 : decode cX7_nextOrder 38 = .ok (.iconst 1, 1) := by decide +kernel
theorem dX7_nextOrder_39 : decode cX7_nextOrder 39 = .ok (.isub, 1) := by decide +kernel
theorem dX7_nextOrder_40 : decode cX7_nextOrder 40 = .ok (.istore_n 3, 1) := by decide +kernel
theorem dX7_nextOrder_41 : decode cX7_nextOrder 41 = .ok (.iload_n 3, 1) := by decide +kernel
theorem dX7_nextOrder_42 : decode cX7_nextOrder 42 = .ok (.iload_n 2, 1) := by decide +kernel
theorem dX7_nextOrder_43 : decode cX7_nextOrder 43 = .ok (.if_icmp .le 24, 3) := by decide +kernel
theorem dX7_nextOrder_46 : decode cX7_nextOrder 46 = .ok (.aload_n 0, 1) := by decide +kernel
theorem dX7_nextOrder_47 : decode cX7_nextOrder 47 = .ok (.getfield 15, 3) := by decide +kernel
theorem dX7_nextOrder_50 : decode cX7_nextOrder 50 = .ok (.iload_n 3, 1) := by decide +kernel
theorem dX7_nextOrder_51 : decode cX7_nextOrder 51 = .ok (.iaload, 1) := by decide +kernel
theorem dX7_nextOrder_52 : decode cX7_nextOrder 52 = .ok (.aload_n 0, 1) := by decide +kernel
theorem dX7_nextOrder_53 : decode cX7_nextOrder 53 = .ok (.getfield 15, 3) := by decide +kernel
theorem dX7_nextOrder_56 : decode cX7_nextOrder 56 = .ok (.iload_n 2, 1) := by decide +kernel
theorem dX7_nextOrder_57 : decode cX7_nextOrder 57 = .ok (.iaload, 1) := by decide +kernel
theorem dX7_nextOrder_58 : decode cX7_nextOrder 58 = .ok (.if_icmp .ge 9, 3) := by decide +kernel
theorem dX7_nextOrder_61 : decode cX7_nextOrder 61 = .ok (.iinc 3 (-1), 3) := by decide +kernel
theorem dX7_nextOrder_64 : decode cX7_nextOrder 64 = .ok (.goto (-23), 3) := by decide +kernel
theorem dX7_nextOrder_67 : decode cX7_nextOrder 67 = .ok (.aload_n 0, 1) := by decide +kernel
theorem dX7_nextOrder_68 : decode cX7_nextOrder 68 = .ok (.iload_n 2, 1) := by decide +kernel
theorem dX7_nextOrder_69 : decode cX7_nextOrder 69 = .ok (.iload_n 3, 1) := by decide +kernel
theorem dX7_nextOrder_70 : decode cX7_nextOrder 70 = .ok (.invokevirtual 57, 3) := by decide +kernel
theorem dX7_nextOrder_73 : decode cX7_nextOrder 73 = .ok (.iload_n 2, 1) := by decide +kernel
theorem dX7_nextOrder_74 : decode cX7_nextOrder 74 = .ok (.iconst 1, 1) := by decide +kernel
theorem dX7_nextOrder_75 : decode cX7_nextOrder 75 = .ok (.iadd, 1) := by decide +kernel
theorem dX7_nextOrder_76 : decode cX7_nextOrder 76 = .ok (.istore 4, 2) := by decide +kernel
theorem dX7_nextOrder_78 : decode cX7_nextOrder 78 = .ok (.iload_n 1, 1) := by decide +kernel
theorem dX7_nextOrder_79 : decode cX7_nextOrder 79 = .ok (.iconst 1, 1) := by decide +kernel
theorem dX7_nextOrder_80 : decode cX7_nextOrder 80 = .ok (.isub, 1) := by decide +kernel
theorem dX7_nextOrder_81 : decode cX7_nextOrder 81 = .ok (.istore 5, 2) := by decide +kernel
theorem dX7_nextOrder_83 : decode cX7_nextOrder 83 = .ok (.iload 4, 2) := by decide +kernel
theorem dX7_nextOrder_85 : decode cX7_nextOrder 85 = .ok (.iload 5, 2) := by decide +kernel
theorem dX7_nextOrder_87 : decode cX7_nextOrder 87 = .ok (.if_icmp .ge 20, 3) := by decide +kernel
theorem dX7_nextOrder_90 : decode cX7_nextOrder 90 = .ok (.aload_n 0, 1) := by decide +kernel
theorem dX7_nextOrder_91 : decode cX7_nextOrder 91 = .ok (.iload 4, 2) := by decide +kernel
theorem dX7_nextOrder_93 : decode cX7_nextOrder 93 = .ok (.iload 5, 2) := by decide +kernel
theorem dX7_nextOrder_95 : decode cX7_nextOrder 95 = .ok (.invokevirtual 57, 3) := by decide +kernel
theorem dX7_nextOrder_98 : decode cX7_nextOrder 98 = .ok (.iinc 4 1, 3) := by decide +kernel
theorem dX7_nextOrder_101 : decode cX7_nextOrder 101 = .ok (.iinc 5 (-1), 3) := by decide +kernel
theorem dX7_nextOrder_104 : decode cX7_nextOrder 104 = .ok (.goto (-21), 3) := by decide +kernel
theorem dX7_nextOrder_107 : decode cX7_nextOrder 107 = .ok (.iconst 1, 1) := by decide +kernel
theorem dX7_nextOrder_108 : decode cX7_nextOrder 108 = .ok (.ireturn, 1) := by decide +kernel
theorem dX7_swap_0 : decode cX7_swap 0 = .ok (.aload_n 0, 1) := by decide +kernel
theorem dX7_swap_1 : decode cX7_swap 1 = .ok (.getfield 15, 3) := by decide +kernel
theorem dX7_swap_4 : decode cX7_swap 4 = .ok (.iload_n 1, 1) := by decide +kernel
theorem dX7_swap_5 : decode cX7_swap 5 = .ok (.iaload, 1) := by decide +kernel
theorem dX7_swap_6 : decode cX7_swap 6 = .ok (.istore_n 3, 1) := by decide +kernel
theorem dX7_swap_7 : decode cX7_swap 7 = .ok (.aload_n 0, 1) := by decide +kernel
theorem dX7_swap_8 : decode cX7_swap 8 = .ok (.getfield 15, 3) := by decide +kernel
theorem dX7_swap_11 : decode cX7_swap 11 = .ok (.iload_n 1, 1) := by decide +kernel
theorem dX7_swap_12 : decode cX7_swap 12 = .ok (.aload_n 0, 1) := by decide +kernel
theorem dX7_swap_13 : decode cX7_swap 13 = .ok (.getfield 15, 3) := by decide +kernel
theorem dX7_swap_16 : decode cX7_swap 16 = .ok (.iload_n 2, 1) := by decide +kernel
theorem dX7_swap_17 : decode cX7_swap 17 = .ok (.iaload, 1) := by decide +kernel
theorem dX7_swap_18 : decode cX7_swap 18 = .ok (.iastore, 1) := by decide +kernel
theorem dX7_swap_19 : decode cX7_swap 19 = .ok (.aload_n 0, 1) := by decide +kernel
theorem dX7_swap_20 : decode cX7_swap 20 = .ok (.getfield 15, 3) := by decide +kernel
theorem dX7_swap_23 : decode cX7_swap 23 = .ok (.iload_n 2, 1) := by decide +kernel
theorem dX7_swap_24 : decode cX7_swap 24 = .ok (.iload_n 3, 1) := by decide +kernel
theorem dX7_swap_25 : decode cX7_swap 25 = .ok (.iastore, 1) := by decide +kernel
theorem dX7_swap_26 : decode cX7_swap 26 = .ok (.return_, 1) := by decide +kernel
theorem dX8_feed_0 : decode cX8_feed 0 = .ok (.iload_n 1, 1) := by decide +kernel
theorem dX8_feed_1 : decode cX8_feed 1 = .ok (.iconst 1, 1) := by decide +kernel
theorem dX8_feed_2 : decode cX8_feed 2 = .ok (.if_icmp .ge 10, 3) := by decide +kernel
theorem dX8_feed_5 : decode cX8_feed 5 = .ok (.aload_n 0, 1) := by decide +kernel
theorem dX8_feed_6 : decode cX8_feed 6 = .ok (.bipush (-4), 2) := by decide +kernel
theorem dX8_feed_8 : decode cX8_feed 8 = .ok (.invokevirtual 69, 3) := by decide +kernel
theorem dX8_feed_11 : decode cX8_feed 11 = .ok (.ireturn, 1) := by decide +kernel
theorem dX8_feed_12 : decode cX8_feed 12 = .ok (.iload_n 1, 1) := by decide +kernel
theorem dX8_feed_13 : decode cX8_feed 13 = .ok (.bipush 8, 2) := by decide +kernel
theorem dX8_feed_15 : decode cX8_feed 15 = .ok (.if_icmp .gt 17, 3) := by decide +kernel
theorem dX8_feed_18 : decode cX8_feed 18 = .ok (.aload_n 0, 1) := by decide +kernel
theorem dX8_feed_19 : decode cX8_feed 19 = .ok (.getfield 22, 3) := by decide +kernel
theorem dX8_feed_22 : decode cX8_feed 22 = .ok (.getfield 73, 3) := by decide +kernel
theorem dX8_feed_25 : decode cX8_feed 25 = .ok (.iload_n 1, 1) := by decide +kernel
theorem dX8_feed_26 : decode cX8_feed 26 = .ok (.iadd, 1) := by decide +kernel
theorem dX8_feed_27 : decode cX8_feed 27 = .ok (.bipush 64, 2) := by decide +kernel
theorem dX8_feed_29 : decode cX8_feed 29 = .ok (.if_icmp .le 10, 3) := by decide +kernel
theorem dX8_feed_32 : decode cX8_feed 32 = .ok (.aload_n 0, 1) := by decide +kernel
theorem dX8_feed_33 : decode cX8_feed 33 = .ok (.bipush (-6), 2) := by decide +kernel
theorem dX8_feed_35 : decode cX8_feed 35 = .ok (.invokevirtual 69, 3) := by decide +kernel
theorem dX8_feed_38 : decode cX8_feed 38 = .ok (.ireturn, 1) := by decide +kernel
theorem dX8_feed_39 : decode cX8_feed 39 = .ok (.aload_n 0, 1) := by decide +kernel
theorem dX8_feed_40 : decode cX8_feed 40 = .ok (.getfield 22, 3) := by decide +kernel
theorem dX8_feed_43 : decode cX8_feed 43 = .ok (.iload_n 1, 1) := by decide +kernel
theorem dX8_feed_44 : decode cX8_feed 44 = .ok (.lload_n 2, 1) := by decide +kernel
theorem dX8_feed_45 : decode cX8_feed 45 = .ok (.invokevirtual 76, 3) := by decide +kernel
theorem dX8_feed_48 : decode cX8_feed 48 = .ok (.ireturn, 1) := by decide +kernel
theorem dX8_house_0 : decode cX8_house 0 = .ok (.aload_n 0, 1) := by decide +kernel
theorem dX8_house_1 : decode cX8_house 1 = .ok (.getfield 22, 3) := by decide +kernel
theorem dX8_house_4 : decode cX8_house 4 = .ok (.aload_n 0, 1) := by decide +kernel
theorem dX8_house_5 : decode cX8_house 5 = .ok (.getfield 10, 3) := by decide +kernel
theorem dX8_house_8 : decode cX8_house 8 = .ok (.invokevirtual 80, 3) := by decide +kernel
theorem dX8_house_11 : decode cX8_house 11 = .ok (.ireturn, 1) := by decide +kernel
theorem dX8_sort_0 : decode cX8_sort 0 = .ok (.aload_n 0, 1) := by decide +kernel
theorem dX8_sort_1 : decode cX8_sort 1 = .ok (.getfield 10, 3) := by decide +kernel
theorem dX8_sort_4 : decode cX8_sort 4 = .ok (.iload_n 1, 1) := by decide +kernel
theorem dX8_sort_5 : decode cX8_sort 5 = .ok (.invokevirtual 84, 3) := by decide +kernel
theorem dX8_sort_8 : decode cX8_sort 8 = .ok (.ifCond .ne 9, 3) := by decide +kernel
theorem dX8_sort_11 : decode cX8_sort 11 = .ok (.aload_n 0, 1) := by decide +kernel
theorem dX8_sort_12 : decode cX8_sort 12 = .ok (.iconst (-1), 1) := by decide +kernel
theorem dX8_sort_13 : decode cX8_sort 13 = .ok (.invokevirtual 69, 3) := by decide +kernel
theorem dX8_sort_16 : decode cX8_sort 16 = .ok (.ireturn, 1) := by decide +kernel
theorem dX8_sort_17 : decode cX8_sort 17 = .ok (.iload_n 2, 1) := by decide +kernel
theorem dX8_sort_18 : decode cX8_sort 18 = .ok (.ifCond .lt 8, 3) := by decide +kernel
theorem dX8_sort_21 : decode cX8_sort 21 = .ok (.iload_n 2, 1) := by decide +kernel
theorem dX8_sort_22 : decode cX8_sort 22 = .ok (.iconst 5, 1) := by decide +kernel
theorem dX8_sort_23 : decode cX8_sort 23 = .ok (.if_icmp .le 10, 3) := by decide +kernel
theorem dX8_sort_26 : decode cX8_sort 26 = .ok (.aload_n 0, 1) := by decide +kernel
theorem dX8_sort_27 : decode cX8_sort 27 = .ok (.bipush (-2), 2) := by decide +kernel
theorem dX8_sort_29 : decode cX8_sort 29 = .ok (.invokevirtual 69, 3) := by decide +kernel
theorem dX8_sort_32 : decode cX8_sort 32 = .ok (.ireturn, 1) := by decide +kernel
theorem dX8_sort_33 : decode cX8_sort 33 = .ok (.iload_n 2, 1) := by decide +kernel
theorem dX8_sort_34 : decode cX8_sort 34 = .ok (.ifCond .ne 13, 3) := by decide +kernel
theorem dX8_sort_37 : decode cX8_sort 37 = .ok (.aload_n 0, 1) := by decide +kernel
theorem dX8_sort_38 : decode cX8_sort 38 = .ok (.getfield 10, 3) := by decide +kernel
theorem dX8_sort_41 : decode cX8_sort 41 = .ok (.getfield 88, 3) := by decide +kernel
theorem dX8_sort_44 : decode cX8_sort 44 = .ok (.iload_n 1, 1) := by decide +kernel
theorem dX8_sort_45 : decode cX8_sort 45 = .ok (.iaload, 1) := by decide +kernel
theorem dX8_sort_46 : decode cX8_sort 46 = .ok (.ireturn, 1) := by decide +kernel
theorem dX8_sort_47 : decode cX8_sort 47 = .ok (.iload_n 2, 1) := by decide +kernel
theorem dX8_sort_48 : decode cX8_sort 48 = .ok (.iconst 1, 1) := by decide +kernel
theorem dX8_sort_49 : decode cX8_sort 49 = .ok (.if_icmp .ne 15, 3) := by decide +kernel
theorem dX8_sort_52 : decode cX8_sort 52 = .ok (.aload_n 0, 1) := by decide +kernel
theorem dX8_sort_53 : decode cX8_sort 53 = .ok (.getfield 10, 3) := by decide +kernel
theorem dX8_sort_56 : decode cX8_sort 56 = .ok (.getfield 91, 3) := by decide +kernel
theorem dX8_sort_59 : decode cX8_sort 59 = .ok (.iload_n 1, 1) := by decide +kernel
theorem dX8_sort_60 : decode cX8_sort 60 = .ok (.iaload, 1) := by decide +kernel
theorem dX8_sort_61 : decode cX8_sort 61 = .ok (.goto 14, 3) := by decide +kernel
theorem dX8_sort_64 : decode cX8_sort 64 = .ok (.aload_n 0, 1) := by decide +kernel
theorem dX8_sort_65 : decode cX8_sort 65 = .ok (.getfield 10, 3) := by decide +kernel
theorem dX8_sort_68 : decode cX8_sort 68 = .ok (.iload_n 1, 1) := by decide +kernel
theorem dX8_sort_69 : decode cX8_sort 69 = .ok (.iload_n 2, 1) := by decide +kernel
theorem dX8_sort_70 : decode cX8_sort 70 = .ok (.iconst 2, 1) := by decide +kernel
theorem dX8_sort_71 : decode cX8_sort 71 = .ok (.isub, 1) := by decide +kernel
theorem dX8_sort_72 : decode cX8_sort 72 = .ok (.invokevirtual 94, 3) := by decide +kernel
theorem dX8_sort_75 : decode cX8_sort 75 = .ok (.ireturn, 1) := by decide +kernel
theorem dX8_lane_0 : decode cX8_lane 0 = .ok (.aload_n 0, 1) := by decide +kernel
theorem dX8_lane_1 : decode cX8_lane 1 = .ok (.getfield 10, 3) := by decide +kernel
theorem dX8_lane_4 : decode cX8_lane 4 = .ok (.iload_n 1, 1) := by decide +kernel
theorem dX8_lane_5 : decode cX8_lane 5 = .ok (.invokevirtual 98, 3) := by decide +kernel
theorem dX8_lane_8 : decode cX8_lane 8 = .ok (.ifCond .eq 10, 3) := by decide +kernel
theorem dX8_lane_11 : decode cX8_lane 11 = .ok (.iload_n 2, 1) := by decide +kernel
theorem dX8_lane_12 : decode cX8_lane 12 = .ok (.invokestatic 101, 3) := by decide +kernel
theorem dX8_lane_15 : decode cX8_lane 15 = .ok (.ifCond .ne 9, 3) := by decide +kernel
theorem dX8_lane_18 : decode cX8_lane 18 = .ok (.aload_n 0, 1) := by decide +kernel
theorem dX8_lane_19 : decode cX8_lane 19 = .ok (.iconst (-1), 1) := by decide +kernel
theorem dX8_lane_20 : decode cX8_lane 20 = .ok (.invokevirtual 69, 3) := by decide +kernel
theorem dX8_lane_23 : decode cX8_lane 23 = .ok (.ireturn, 1) := by decide +kernel
theorem dX8_lane_24 : decode cX8_lane 24 = .ok (.aload_n 0, 1) := by decide +kernel
theorem dX8_lane_25 : decode cX8_lane 25 = .ok (.getfield 10, 3) := by decide +kernel
theorem dX8_lane_28 : decode cX8_lane 28 = .ok (.iload_n 1, 1) := by decide +kernel
theorem dX8_lane_29 : decode cX8_lane 29 = .ok (.iload_n 2, 1) := by decide +kernel
theorem dX8_lane_30 : decode cX8_lane 30 = .ok (.invokevirtual 104, 3) := by decide +kernel
theorem dX8_lane_33 : decode cX8_lane 33 = .ok (.ireturn, 1) := by decide +kernel
theorem dX8_word_0 : decode cX8_word 0 = .ok (.aload_n 0, 1) := by decide +kernel
theorem dX8_word_1 : decode cX8_word 1 = .ok (.getfield 10, 3) := by decide +kernel
theorem dX8_word_4 : decode cX8_word 4 = .ok (.iload_n 1, 1) := by decide +kernel
theorem dX8_word_5 : decode cX8_word 5 = .ok (.invokevirtual 98, 3) := by decide +kernel
theorem dX8_word_8 : decode cX8_word 8 = .ok (.ifCond .ne 9, 3) := by decide +kernel
theorem dX8_word_11 : decode cX8_word 11 = .ok (.aload_n 0, 1) := by decide +kernel
theorem dX8_word_12 : decode cX8_word 12 = .ok (.iconst (-1), 1) := by decide +kernel
theorem dX8_word_13 : decode cX8_word 13 = .ok (.invokevirtual 69, 3) := by decide +kernel
theorem dX8_word_16 : decode cX8_word 16 = .ok (.ireturn, 1) := by decide +kernel
theorem dX8_word_17 : decode cX8_word 17 = .ok (.iload_n 2, 1) := by decide +kernel
theorem dX8_word_18 : decode cX8_word 18 = .ok (.ifCond .ge 10, 3) := by decide +kernel
theorem dX8_word_21 : decode cX8_word 21 = .ok (.aload_n 0, 1) := by decide +kernel
theorem dX8_word_22 : decode cX8_word 22 = .ok (.bipush (-4), 2) := by decide +kernel
theorem dX8_word_24 : decode cX8_word 24 = .ok (.invokevirtual 69, 3) := by decide +kernel
theorem dX8_word_27 : decode cX8_word 27 = .ok (.ireturn, 1) := by decide +kernel
theorem dX8_word_28 : decode cX8_word 28 = .ok (.iload_n 2, 1) := by decide +kernel
theorem dX8_word_29 : decode cX8_word 29 = .ok (.bipush 31, 2) := by decide +kernel
theorem dX8_word_31 : decode cX8_word 31 = .ok (.if_icmp .le 10, 3) := by decide +kernel
theorem dX8_word_34 : decode cX8_word 34 = .ok (.aload_n 0, 1) := by decide +kernel
theorem dX8_word_35 : decode cX8_word 35 = .ok (.bipush (-6), 2) := by decide +kernel
theorem dX8_word_37 : decode cX8_word 37 = .ok (.invokevirtual 69, 3) := by decide +kernel
theorem dX8_word_40 : decode cX8_word 40 = .ok (.ireturn, 1) := by decide +kernel
theorem dX8_word_41 : decode cX8_word 41 = .ok (.aload_n 0, 1) := by decide +kernel
theorem dX8_word_42 : decode cX8_word 42 = .ok (.getfield 10, 3) := by decide +kernel
theorem dX8_word_45 : decode cX8_word 45 = .ok (.iload_n 1, 1) := by decide +kernel
theorem dX8_word_46 : decode cX8_word 46 = .ok (.iconst 0, 1) := by decide +kernel
theorem dX8_word_47 : decode cX8_word 47 = .ok (.invokevirtual 104, 3) := by decide +kernel
theorem dX8_word_50 : decode cX8_word 50 = .ok (.istore_n 3, 1) := by decide +kernel
theorem dX8_word_51 : decode cX8_word 51 = .ok (.aload_n 0, 1) := by decide +kernel
theorem dX8_word_52 : decode cX8_word 52 = .ok (.getfield 10, 3) := by decide +kernel
theorem dX8_word_55 : decode cX8_word 55 = .ok (.iload_n 1, 1) := by decide +kernel
theorem dX8_word_56 : decode cX8_word 56 = .ok (.iconst 0, 1) := by decide +kernel
theorem dX8_word_57 : decode cX8_word 57 = .ok (.iload_n 2, 1) := by decide +kernel
theorem dX8_word_58 : decode cX8_word 58 = .ok (.invokevirtual 107, 3) := by decide +kernel
theorem dX8_word_61 : decode cX8_word 61 = .ok (.iload_n 3, 1) := by decide +kernel
theorem dX8_word_62 : decode cX8_word 62 = .ok (.ireturn, 1) := by decide +kernel
theorem dX8_set_0 : decode cX8_set 0 = .ok (.iload_n 1, 1) := by decide +kernel
theorem dX8_set_1 : decode cX8_set 1 = .ok (.ifCond .lt 9, 3) := by decide +kernel
theorem dX8_set_4 : decode cX8_set 4 = .ok (.iload_n 1, 1) := by decide +kernel
theorem dX8_set_5 : decode cX8_set 5 = .ok (.bipush 8, 2) := by decide +kernel
theorem dX8_set_7 : decode cX8_set 7 = .ok (.if_icmp .lt 10, 3) := by decide +kernel
theorem dX8_set_10 : decode cX8_set 10 = .ok (.aload_n 0, 1) := by decide +kernel
theorem dX8_set_11 : decode cX8_set 11 = .ok (.bipush (-2), 2) := by decide +kernel
theorem dX8_set_13 : decode cX8_set 13 = .ok (.invokevirtual 69, 3) := by decide +kernel
theorem dX8_set_16 : decode cX8_set 16 = .ok (.ireturn, 1) := by decide +kernel
theorem dX8_set_17 : decode cX8_set 17 = .ok (.iload_n 2, 1) := by decide +kernel
theorem dX8_set_18 : decode cX8_set 18 = .ok (.getstatic 111, 3) := by decide +kernel
theorem dX8_set_21 : decode cX8_set 21 = .ok (.iload_n 1, 1) := by decide +kernel
theorem dX8_set_22 : decode cX8_set 22 = .ok (.iaload, 1) := by decide +kernel
theorem dX8_set_23 : decode cX8_set 23 = .ok (.if_icmp .ge 10, 3) := by decide +kernel
theorem dX8_set_26 : decode cX8_set 26 = .ok (.aload_n 0, 1) := by decide +kernel
theorem dX8_set_27 : decode cX8_set 27 = .ok (.bipush (-4), 2) := by decide +kernel
theorem dX8_set_29 : decode cX8_set 29 = .ok (.invokevirtual 69, 3) := by decide +kernel
theorem dX8_set_32 : decode cX8_set 32 = .ok (.ireturn, 1) := by decide +kernel
theorem dX8_set_33 : decode cX8_set 33 = .ok (.iload_n 2, 1) := by decide +kernel
theorem dX8_set_34 : decode cX8_set 34 = .ok (.getstatic 114, 3) := by decide +kernel
theorem dX8_set_37 : decode cX8_set 37 = .ok (.iload_n 1, 1) := by decide +kernel
theorem dX8_set_38 : decode cX8_set 38 = .ok (.iaload, 1) := by decide +kernel
theorem dX8_set_39 : decode cX8_set 39 = .ok (.if_icmp .le 10, 3) := by decide +kernel
theorem dX8_set_42 : decode cX8_set 42 = .ok (.aload_n 0, 1) := by decide +kernel
theorem dX8_set_43 : decode cX8_set 43 = .ok (.bipush (-6), 2) := by decide +kernel
theorem dX8_set_45 : decode cX8_set 45 = .ok (.invokevirtual 69, 3) := by decide +kernel
theorem dX8_set_48 : decode cX8_set 48 = .ok (.ireturn, 1) := by decide +kernel
theorem dX8_set_49 : decode cX8_set 49 = .ok (.aload_n 0, 1) := by decide +kernel
theorem dX8_set_50 : decode cX8_set 50 = .ok (.getfield 10, 3) := by decide +kernel
theorem dX8_set_53 : decode cX8_set 53 = .ok (.getfield 117, 3) := by decide +kernel
theorem dX8_set_56 : decode cX8_set 56 = .ok (.iload_n 1, 1) := by decide +kernel
theorem dX8_set_57 : decode cX8_set 57 = .ok (.iaload, 1) := by decide +kernel
theorem dX8_set_58 : decode cX8_set 58 = .ok (.istore_n 3, 1) := by decide +kernel
theorem dX8_set_59 : decode cX8_set 59 = .ok (.aload_n 0, 1) := by decide +kernel
theorem dX8_set_60 : decode cX8_set 60 = .ok (.getfield 10, 3) := by decide +kernel
theorem dX8_set_63 : decode cX8_set 63 = .ok (.getfield 117, 3) := by decide +kernel
theorem dX8_set_66 : decode cX8_set 66 = .ok (.iload_n 1, 1) := by decide +kernel
theorem dX8_set_67 : decode cX8_set 67 = .ok (.iload_n 2, 1) := by decide +kernel
theorem dX8_set_68 : decode cX8_set 68 = .ok (.iastore, 1) := by decide +kernel
theorem dX8_set_69 : decode cX8_set 69 = .ok (.iload_n 3, 1) := by decide +kernel
theorem dX8_set_70 : decode cX8_set 70 = .ok (.ireturn, 1) := by decide +kernel
theorem dX8_come_0 : decode cX8_come 0 = .ok (.iload_n 1, 1) := by decide +kernel
theorem dX8_come_1 : decode cX8_come 1 = .ok (.invokestatic 101, 3) := by decide +kernel
theorem dX8_come_4 : decode cX8_come 4 = .ok (.ifCond .eq 14, 3) := by decide +kernel
theorem dX8_come_7 : decode cX8_come 7 = .ok (.aload_n 0, 1) := by decide +kernel
theorem dX8_come_8 : decode cX8_come 8 = .ok (.getfield 10, 3) := by decide +kernel
theorem dX8_come_11 : decode cX8_come 11 = .ok (.iload_n 2, 1) := by decide +kernel
theorem dX8_come_12 : decode cX8_come 12 = .ok (.invokevirtual 84, 3) := by decide +kernel
theorem dX8_come_15 : decode cX8_come 15 = .ok (.ifCond .ne 9, 3) := by decide +kernel
theorem dX8_come_18 : decode cX8_come 18 = .ok (.aload_n 0, 1) := by decide +kernel
theorem dX8_come_19 : decode cX8_come 19 = .ok (.iconst (-1), 1) := by decide +kernel
theorem dX8_come_20 : decode cX8_come 20 = .ok (.invokevirtual 69, 3) := by decide +kernel
theorem dX8_come_23 : decode cX8_come 23 = .ok (.ireturn, 1) := by decide +kernel
theorem dX8_come_24 : decode cX8_come 24 = .ok (.iload_n 3, 1) := by decide +kernel
theorem dX8_come_25 : decode cX8_come 25 = .ok (.ifCond .ge 10, 3) := by decide +kernel
theorem dX8_come_28 : decode cX8_come 28 = .ok (.aload_n 0, 1) := by decide +kernel
theorem dX8_come_29 : decode cX8_come 29 = .ok (.bipush (-4), 2) := by decide +kernel
theorem dX8_come_31 : decode cX8_come 31 = .ok (.invokevirtual 69, 3) := by decide +kernel
theorem dX8_come_34 : decode cX8_come 34 = .ok (.ireturn, 1) := by decide +kernel
theorem dX8_come_35 : decode cX8_come 35 = .ok (.iload_n 3, 1) := by decide +kernel
theorem dX8_come_36 : decode cX8_come 36 = .ok (.bipush 25, 2) := by decide +kernel
theorem dX8_come_38 : decode cX8_come 38 = .ok (.if_icmp .le 10, 3) := by decide +kernel
theorem dX8_come_41 : decode cX8_come 41 = .ok (.aload_n 0, 1) := by decide +kernel
theorem dX8_come_42 : decode cX8_come 42 = .ok (.bipush (-6), 2) := by decide +kernel
theorem dX8_come_44 : decode cX8_come 44 = .ok (.invokevirtual 69, 3) := by decide +kernel
theorem dX8_come_47 : decode cX8_come 47 = .ok (.ireturn, 1) := by decide +kernel
theorem dX8_come_48 : decode cX8_come 48 = .ok (.aload_n 0, 1) := by decide +kernel
theorem dX8_come_49 : decode cX8_come 49 = .ok (.getfield 10, 3) := by decide +kernel
theorem dX8_come_52 : decode cX8_come 52 = .ok (.iload_n 2, 1) := by decide +kernel
theorem dX8_come_53 : decode cX8_come 53 = .ok (.iload_n 1, 1) := by decide +kernel
theorem dX8_come_54 : decode cX8_come 54 = .ok (.invokevirtual 94, 3) := by decide +kernel
theorem dX8_come_57 : decode cX8_come 57 = .ok (.istore 4, 2) := by decide +kernel
theorem dX8_come_59 : decode cX8_come 59 = .ok (.aload_n 0, 1) := by decide +kernel
theorem dX8_come_60 : decode cX8_come 60 = .ok (.getfield 10, 3) := by decide +kernel
theorem dX8_come_63 : decode cX8_come 63 = .ok (.iload_n 2, 1) := by decide +kernel
theorem dX8_come_64 : decode cX8_come 64 = .ok (.iload_n 1, 1) := by decide +kernel
theorem dX8_come_65 : decode cX8_come 65 = .ok (.iload_n 3, 1) := by decide +kernel
theorem dX8_come_66 : decode cX8_come 66 = .ok (.invokevirtual 120, 3) := by decide +kernel
theorem dX8_come_69 : decode cX8_come 69 = .ok (.iload 4, 2) := by decide +kernel
theorem dX8_come_71 : decode cX8_come 71 = .ok (.ireturn, 1) := by decide +kernel
theorem dX8_cost_0 : decode cX8_cost 0 = .ok (.aload_n 0, 1) := by decide +kernel
theorem dX8_cost_1 : decode cX8_cost 1 = .ok (.getfield 29, 3) := by decide +kernel
theorem dX8_cost_4 : decode cX8_cost 4 = .ok (.aload_n 0, 1) := by decide +kernel
theorem dX8_cost_5 : decode cX8_cost 5 = .ok (.getfield 10, 3) := by decide +kernel
theorem dX8_cost_8 : decode cX8_cost 8 = .ok (.invokevirtual 123, 3) := by decide +kernel
theorem dX8_cost_11 : decode cX8_cost 11 = .ok (.aload_n 0, 1) := by decide +kernel
theorem dX8_cost_12 : decode cX8_cost 12 = .ok (.getfield 29, 3) := by decide +kernel
theorem dX8_cost_15 : decode cX8_cost 15 = .ok (.invokevirtual 127, 3) := by decide +kernel
theorem dX8_cost_18 : decode cX8_cost 18 = .ok (.ireturn, 1) := by decide +kernel
theorem dX8_waited_0 : decode cX8_waited 0 = .ok (.aload_n 0, 1) := by decide +kernel
theorem dX8_waited_1 : decode cX8_waited 1 = .ok (.getfield 10, 3) := by decide +kernel
theorem dX8_waited_4 : decode cX8_waited 4 = .ok (.iload_n 1, 1) := by decide +kernel
theorem dX8_waited_5 : decode cX8_waited 5 = .ok (.invokevirtual 84, 3) := by decide +kernel
theorem dX8_waited_8 : decode cX8_waited 8 = .ok (.ifCond .ne 9, 3) := by decide +kernel
theorem dX8_waited_11 : decode cX8_waited 11 = .ok (.aload_n 0, 1) := by decide +kernel
theorem dX8_waited_12 : decode cX8_waited 12 = .ok (.iconst (-1), 1) := by decide +kernel
theorem dX8_waited_13 : decode cX8_waited 13 = .ok (.invokevirtual 69, 3) := by decide +kernel
theorem dX8_waited_16 : decode cX8_waited 16 = .ok (.ireturn, 1) := by decide +kernel
theorem dX8_waited_17 : decode cX8_waited 17 = .ok (.aload_n 0, 1) := by decide +kernel
theorem dX8_waited_18 : decode cX8_waited 18 = .ok (.getfield 29, 3) := by decide +kernel
theorem dX8_waited_21 : decode cX8_waited 21 = .ok (.aload_n 0, 1) := by decide +kernel
theorem dX8_waited_22 : decode cX8_waited 22 = .ok (.getfield 10, 3) := by decide +kernel
theorem dX8_waited_25 : decode cX8_waited 25 = .ok (.invokevirtual 123, 3) := by decide +kernel
theorem dX8_waited_28 : decode cX8_waited 28 = .ok (.aload_n 0, 1) := by decide +kernel
theorem dX8_waited_29 : decode cX8_waited 29 = .ok (.getfield 29, 3) := by decide +kernel
theorem dX8_waited_32 : decode cX8_waited 32 = .ok (.getfield 131, 3) := by decide +kernel
theorem dX8_waited_35 : decode cX8_waited 35 = .ok (.iload_n 1, 1) := by decide +kernel
theorem dX8_waited_36 : decode cX8_waited 36 = .ok (.iaload, 1) := by decide +kernel
theorem dX8_waited_37 : decode cX8_waited 37 = .ok (.ireturn, 1) := by decide +kernel
theorem dX8_served_0 : decode cX8_served 0 = .ok (.aload_n 0, 1) := by decide +kernel
theorem dX8_served_1 : decode cX8_served 1 = .ok (.getfield 10, 3) := by decide +kernel
theorem dX8_served_4 : decode cX8_served 4 = .ok (.iload_n 1, 1) := by decide +kernel
theorem dX8_served_5 : decode cX8_served 5 = .ok (.invokevirtual 84, 3) := by decide +kernel
theorem dX8_served_8 : decode cX8_served 8 = .ok (.ifCond .ne 9, 3) := by decide +kernel
theorem dX8_served_11 : decode cX8_served 11 = .ok (.aload_n 0, 1) := by decide +kernel
theorem dX8_served_12 : decode cX8_served 12 = .ok (.iconst (-1), 1) := by decide +kernel
theorem dX8_served_13 : decode cX8_served 13 = .ok (.invokevirtual 69, 3) := by decide +kernel
theorem dX8_served_16 : decode cX8_served 16 = .ok (.ireturn, 1) := by decide +kernel
theorem dX8_served_17 : decode cX8_served 17 = .ok (.aload_n 0, 1) := by decide +kernel
theorem dX8_served_18 : decode cX8_served 18 = .ok (.getfield 29, 3) := by decide +kernel
theorem dX8_served_21 : decode cX8_served 21 = .ok (.aload_n 0, 1) := by decide +kernel
theorem dX8_served_22 : decode cX8_served 22 = .ok (.getfield 10, 3) := by decide +kernel
theorem dX8_served_25 : decode cX8_served 25 = .ok (.invokevirtual 123, 3) := by decide +kernel
theorem dX8_served_28 : decode cX8_served 28 = .ok (.aload_n 0, 1) := by decide +kernel
theorem dX8_served_29 : decode cX8_served 29 = .ok (.getfield 29, 3) := by decide +kernel
theorem dX8_served_32 : decode cX8_served 32 = .ok (.getfield 134, 3) := by decide +kernel
theorem dX8_served_35 : decode cX8_served 35 = .ok (.iload_n 1, 1) := by decide +kernel
theorem dX8_served_36 : decode cX8_served 36 = .ok (.iaload, 1) := by decide +kernel
theorem dX8_served_37 : decode cX8_served 37 = .ok (.ireturn, 1) := by decide +kernel
theorem dX8_lost_0 : decode cX8_lost 0 = .ok (.aload_n 0, 1) := by decide +kernel
theorem dX8_lost_1 : decode cX8_lost 1 = .ok (.getfield 10, 3) := by decide +kernel
theorem dX8_lost_4 : decode cX8_lost 4 = .ok (.iload_n 1, 1) := by decide +kernel
theorem dX8_lost_5 : decode cX8_lost 5 = .ok (.invokevirtual 84, 3) := by decide +kernel
theorem dX8_lost_8 : decode cX8_lost 8 = .ok (.ifCond .ne 9, 3) := by decide +kernel
theorem dX8_lost_11 : decode cX8_lost 11 = .ok (.aload_n 0, 1) := by decide +kernel
theorem dX8_lost_12 : decode cX8_lost 12 = .ok (.iconst (-1), 1) := by decide +kernel
theorem dX8_lost_13 : decode cX8_lost 13 = .ok (.invokevirtual 69, 3) := by decide +kernel
theorem dX8_lost_16 : decode cX8_lost 16 = .ok (.ireturn, 1) := by decide +kernel
theorem dX8_lost_17 : decode cX8_lost 17 = .ok (.aload_n 0, 1) := by decide +kernel
theorem dX8_lost_18 : decode cX8_lost 18 = .ok (.getfield 29, 3) := by decide +kernel
theorem dX8_lost_21 : decode cX8_lost 21 = .ok (.aload_n 0, 1) := by decide +kernel
theorem dX8_lost_22 : decode cX8_lost 22 = .ok (.getfield 10, 3) := by decide +kernel
theorem dX8_lost_25 : decode cX8_lost 25 = .ok (.invokevirtual 123, 3) := by decide +kernel
theorem dX8_lost_28 : decode cX8_lost 28 = .ok (.aload_n 0, 1) := by decide +kernel
theorem dX8_lost_29 : decode cX8_lost 29 = .ok (.getfield 29, 3) := by decide +kernel
theorem dX8_lost_32 : decode cX8_lost 32 = .ok (.getfield 137, 3) := by decide +kernel
theorem dX8_lost_35 : decode cX8_lost 35 = .ok (.iload_n 1, 1) := by decide +kernel
theorem dX8_lost_36 : decode cX8_lost 36 = .ok (.iaload, 1) := by decide +kernel
theorem dX8_lost_37 : decode cX8_lost 37 = .ok (.ireturn, 1) := by decide +kernel
theorem dX8_strayed_0 : decode cX8_strayed 0 = .ok (.aload_n 0, 1) := by decide +kernel
theorem dX8_strayed_1 : decode cX8_strayed 1 = .ok (.getfield 29, 3) := by decide +kernel
theorem dX8_strayed_4 : decode cX8_strayed 4 = .ok (.aload_n 0, 1) := by decide +kernel
theorem dX8_strayed_5 : decode cX8_strayed 5 = .ok (.getfield 10, 3) := by decide +kernel
theorem dX8_strayed_8 : decode cX8_strayed 8 = .ok (.invokevirtual 123, 3) := by decide +kernel
theorem dX8_strayed_11 : decode cX8_strayed 11 = .ok (.aload_n 0, 1) := by decide +kernel
theorem dX8_strayed_12 : decode cX8_strayed 12 = .ok (.getfield 29, 3) := by decide +kernel
theorem dX8_strayed_15 : decode cX8_strayed 15 = .ok (.getfield 140, 3) := by decide +kernel
theorem dX8_strayed_18 : decode cX8_strayed 18 = .ok (.ireturn, 1) := by decide +kernel
theorem dX8_longest_0 : decode cX8_longest 0 = .ok (.aload_n 0, 1) := by decide +kernel
theorem dX8_longest_1 : decode cX8_longest 1 = .ok (.getfield 10, 3) := by decide +kernel
theorem dX8_longest_4 : decode cX8_longest 4 = .ok (.iload_n 1, 1) := by decide +kernel
theorem dX8_longest_5 : decode cX8_longest 5 = .ok (.invokevirtual 98, 3) := by decide +kernel
theorem dX8_longest_8 : decode cX8_longest 8 = .ok (.ifCond .ne 9, 3) := by decide +kernel
theorem dX8_longest_11 : decode cX8_longest 11 = .ok (.aload_n 0, 1) := by decide +kernel
theorem dX8_longest_12 : decode cX8_longest 12 = .ok (.iconst (-1), 1) := by decide +kernel
theorem dX8_longest_13 : decode cX8_longest 13 = .ok (.invokevirtual 69, 3) := by decide +kernel
theorem dX8_longest_16 : decode cX8_longest 16 = .ok (.ireturn, 1) := by decide +kernel
theorem dX8_longest_17 : decode cX8_longest 17 = .ok (.aload_n 0, 1) := by decide +kernel
theorem dX8_longest_18 : decode cX8_longest 18 = .ok (.getfield 29, 3) := by decide +kernel
theorem dX8_longest_21 : decode cX8_longest 21 = .ok (.aload_n 0, 1) := by decide +kernel
theorem dX8_longest_22 : decode cX8_longest 22 = .ok (.getfield 10, 3) := by decide +kernel
theorem dX8_longest_25 : decode cX8_longest 25 = .ok (.invokevirtual 123, 3) := by decide +kernel
theorem dX8_longest_28 : decode cX8_longest 28 = .ok (.aload_n 0, 1) := by decide +kernel
theorem dX8_longest_29 : decode cX8_longest 29 = .ok (.getfield 29, 3) := by decide +kernel
theorem dX8_longest_32 : decode cX8_longest 32 = .ok (.getfield 143, 3) := by decide +kernel
theorem dX8_longest_35 : decode cX8_longest 35 = .ok (.iload_n 1, 1) := by decide +kernel
theorem dX8_longest_36 : decode cX8_longest 36 = .ok (.aaload, 1) := by decide +kernel
theorem dX8_longest_37 : decode cX8_longest 37 = .ok (.getfield 147, 3) := by decide +kernel
theorem dX8_longest_40 : decode cX8_longest 40 = .ok (.ireturn, 1) := by decide +kernel
theorem dX8_passed_0 : decode cX8_passed 0 = .ok (.aload_n 0, 1) := by decide +kernel
theorem dX8_passed_1 : decode cX8_passed 1 = .ok (.getfield 10, 3) := by decide +kernel
theorem dX8_passed_4 : decode cX8_passed 4 = .ok (.iload_n 1, 1) := by decide +kernel
theorem dX8_passed_5 : decode cX8_passed 5 = .ok (.invokevirtual 98, 3) := by decide +kernel
theorem dX8_passed_8 : decode cX8_passed 8 = .ok (.ifCond .ne 9, 3) := by decide +kernel
theorem dX8_passed_11 : decode cX8_passed 11 = .ok (.aload_n 0, 1) := by decide +kernel
theorem dX8_passed_12 : decode cX8_passed 12 = .ok (.iconst (-1), 1) := by decide +kernel
theorem dX8_passed_13 : decode cX8_passed 13 = .ok (.invokevirtual 69, 3) := by decide +kernel
theorem dX8_passed_16 : decode cX8_passed 16 = .ok (.ireturn, 1) := by decide +kernel
theorem dX8_passed_17 : decode cX8_passed 17 = .ok (.aload_n 0, 1) := by decide +kernel
theorem dX8_passed_18 : decode cX8_passed 18 = .ok (.getfield 29, 3) := by decide +kernel
theorem dX8_passed_21 : decode cX8_passed 21 = .ok (.aload_n 0, 1) := by decide +kernel
theorem dX8_passed_22 : decode cX8_passed 22 = .ok (.getfield 10, 3) := by decide +kernel
theorem dX8_passed_25 : decode cX8_passed 25 = .ok (.invokevirtual 123, 3) := by decide +kernel
theorem dX8_passed_28 : decode cX8_passed 28 = .ok (.aload_n 0, 1) := by decide +kernel
theorem dX8_passed_29 : decode cX8_passed 29 = .ok (.getfield 29, 3) := by decide +kernel
theorem dX8_passed_32 : decode cX8_passed 32 = .ok (.getfield 143, 3) := by decide +kernel
theorem dX8_passed_35 : decode cX8_passed 35 = .ok (.iload_n 1, 1) := by decide +kernel
theorem dX8_passed_36 : decode cX8_passed 36 = .ok (.aaload, 1) := by decide +kernel
theorem dX8_passed_37 : decode cX8_passed 37 = .ok (.getfield 152, 3) := by decide +kernel
theorem dX8_passed_40 : decode cX8_passed 40 = .ok (.ireturn, 1) := by decide +kernel
theorem dX8_last_0 : decode cX8_last 0 = .ok (.aload_n 0, 1) := by decide +kernel
theorem dX8_last_1 : decode cX8_last 1 = .ok (.getfield 29, 3) := by decide +kernel
theorem dX8_last_4 : decode cX8_last 4 = .ok (.aload_n 0, 1) := by decide +kernel
theorem dX8_last_5 : decode cX8_last 5 = .ok (.getfield 10, 3) := by decide +kernel
theorem dX8_last_8 : decode cX8_last 8 = .ok (.invokevirtual 123, 3) := by decide +kernel
theorem dX8_last_11 : decode cX8_last 11 = .ok (.aload_n 0, 1) := by decide +kernel
theorem dX8_last_12 : decode cX8_last 12 = .ok (.getfield 29, 3) := by decide +kernel
theorem dX8_last_15 : decode cX8_last 15 = .ok (.getfield 155, 3) := by decide +kernel
theorem dX8_last_18 : decode cX8_last 18 = .ok (.ifCond .ge 8, 3) := by decide +kernel
theorem dX8_last_21 : decode cX8_last 21 = .ok (.bipush (-9), 2) := by decide +kernel
theorem dX8_last_23 : decode cX8_last 23 = .ok (.goto 10, 3) := by decide +kernel
theorem dX8_last_26 : decode cX8_last 26 = .ok (.aload_n 0, 1) := by decide +kernel
theorem dX8_last_27 : decode cX8_last 27 = .ok (.getfield 29, 3) := by decide +kernel
theorem dX8_last_30 : decode cX8_last 30 = .ok (.getfield 155, 3) := by decide +kernel
theorem dX8_last_33 : decode cX8_last 33 = .ok (.ireturn, 1) := by decide +kernel
theorem dX8_mean_0 : decode cX8_mean 0 = .ok (.aload_n 0, 1) := by decide +kernel
theorem dX8_mean_1 : decode cX8_mean 1 = .ok (.getfield 10, 3) := by decide +kernel
theorem dX8_mean_4 : decode cX8_mean 4 = .ok (.iload_n 1, 1) := by decide +kernel
theorem dX8_mean_5 : decode cX8_mean 5 = .ok (.invokevirtual 84, 3) := by decide +kernel
theorem dX8_mean_8 : decode cX8_mean 8 = .ok (.ifCond .ne 9, 3) := by decide +kernel
theorem dX8_mean_11 : decode cX8_mean 11 = .ok (.aload_n 0, 1) := by decide +kernel
theorem dX8_mean_12 : decode cX8_mean 12 = .ok (.iconst (-1), 1) := by decide +kernel
theorem dX8_mean_13 : decode cX8_mean 13 = .ok (.invokevirtual 69, 3) := by decide +kernel
theorem dX8_mean_16 : decode cX8_mean 16 = .ok (.ireturn, 1) := by decide +kernel
theorem dX8_mean_17 : decode cX8_mean 17 = .ok (.iload_n 2, 1) := by decide +kernel
theorem dX8_mean_18 : decode cX8_mean 18 = .ok (.ifCond .lt 8, 3) := by decide +kernel
theorem dX8_mean_21 : decode cX8_mean 21 = .ok (.iload_n 2, 1) := by decide +kernel
theorem dX8_mean_22 : decode cX8_mean 22 = .ok (.iconst 1, 1) := by decide +kernel
theorem dX8_mean_23 : decode cX8_mean 23 = .ok (.if_icmp .le 10, 3) := by decide +kernel
theorem dX8_mean_26 : decode cX8_mean 26 = .ok (.aload_n 0, 1) := by decide +kernel
theorem dX8_mean_27 : decode cX8_mean 27 = .ok (.bipush (-2), 2) := by decide +kernel
theorem dX8_mean_29 : decode cX8_mean 29 = .ok (.invokevirtual 69, 3) := by decide +kernel
theorem dX8_mean_32 : decode cX8_mean 32 = .ok (.ireturn, 1) := by decide +kernel
theorem dX8_mean_33 : decode cX8_mean 33 = .ok (.aload_n 0, 1) := by decide +kernel
theorem dX8_mean_34 : decode cX8_mean 34 = .ok (.getfield 29, 3) := by decide +kernel
theorem dX8_mean_37 : decode cX8_mean 37 = .ok (.aload_n 0, 1) := by decide +kernel
theorem dX8_mean_38 : decode cX8_mean 38 = .ok (.getfield 10, 3) := by decide +kernel
theorem dX8_mean_41 : decode cX8_mean 41 = .ok (.invokevirtual 123, 3) := by decide +kernel
theorem dX8_mean_44 : decode cX8_mean 44 = .ok (.aload_n 0, 1) := by decide +kernel
theorem dX8_mean_45 : decode cX8_mean 45 = .ok (.getfield 29, 3) := by decide +kernel
theorem dX8_mean_48 : decode cX8_mean 48 = .ok (.getfield 131, 3) := by decide +kernel
theorem dX8_mean_51 : decode cX8_mean 51 = .ok (.iload_n 1, 1) := by decide +kernel
theorem dX8_mean_52 : decode cX8_mean 52 = .ok (.iaload, 1) := by decide +kernel
theorem dX8_mean_53 : decode cX8_mean 53 = .ok (.istore_n 3, 1) := by decide +kernel
theorem dX8_mean_54 : decode cX8_mean 54 = .ok (.aload_n 0, 1) := by decide +kernel
theorem dX8_mean_55 : decode cX8_mean 55 = .ok (.getfield 29, 3) := by decide +kernel
theorem dX8_mean_58 : decode cX8_mean 58 = .ok (.iload_n 1, 1) := by decide +kernel
theorem dX8_mean_59 : decode cX8_mean 59 = .ok (.invokevirtual 158, 3) := by decide +kernel
theorem dX8_mean_62 : decode cX8_mean 62 = .ok (.istore 4, 2) := by decide +kernel
theorem dX8_mean_64 : decode cX8_mean 64 = .ok (.iload_n 3, 1) := by decide +kernel
theorem dX8_mean_65 : decode cX8_mean 65 = .ok (.iload 4, 2) := by decide +kernel
theorem dX8_mean_67 : decode cX8_mean 67 = .ok (.invokestatic 161, 3) := by decide +kernel
theorem dX8_mean_70 : decode cX8_mean 70 = .ok (.istore 5, 2) := by decide +kernel
theorem dX8_mean_72 : decode cX8_mean 72 = .ok (.iload 4, 2) := by decide +kernel
theorem dX8_mean_74 : decode cX8_mean 74 = .ok (.iconst 1, 1) := by decide +kernel
theorem dX8_mean_75 : decode cX8_mean 75 = .ok (.if_icmp .lt 9, 3) := by decide +kernel
theorem dX8_mean_78 : decode cX8_mean 78 = .ok (.iload 5, 2) := by decide +kernel
theorem dX8_mean_80 : decode cX8_mean 80 = .ok (.iconst 1, 1) := by decide +kernel
theorem dX8_mean_81 : decode cX8_mean 81 = .ok (.if_icmp .ge 13, 3) := by decide +kernel
theorem dX8_mean_84 : decode cX8_mean 84 = .ok (.iload_n 2, 1) := by decide +kernel
theorem dX8_mean_85 : decode cX8_mean 85 = .ok (.ifCond .ne 7, 3) := by decide +kernel
theorem dX8_mean_88 : decode cX8_mean 88 = .ok (.iconst 0, 1) := by decide +kernel
theorem dX8_mean_89 : decode cX8_mean 89 = .ok (.goto 4, 3) := by decide +kernel
theorem dX8_mean_92 : decode cX8_mean 92 = .ok (.iconst 1, 1) := by decide +kernel
theorem dX8_mean_93 : decode cX8_mean 93 = .ok (.ireturn, 1) := by decide +kernel
theorem dX8_mean_94 : decode cX8_mean 94 = .ok (.iload_n 2, 1) := by decide +kernel
theorem dX8_mean_95 : decode cX8_mean 95 = .ok (.ifCond .ne 10, 3) := by decide +kernel
theorem dX8_mean_98 : decode cX8_mean 98 = .ok (.iload_n 3, 1) := by decide +kernel
theorem dX8_mean_99 : decode cX8_mean 99 = .ok (.iload 5, 2) := by decide +kernel
theorem dX8_mean_101 : decode cX8_mean 101 = .ok (.idiv, 1) := by decide +kernel
theorem dX8_mean_102 : decode cX8_mean 102 = .ok (.goto 8, 3) := by decide +kernel
theorem dX8_mean_105 : decode cX8_mean 105 = .ok (.iload 4, 2) := by decide +kernel
theorem dX8_mean_107 : decode cX8_mean 107 = .ok (.iload 5, 2) := by decide +kernel
theorem dX8_mean_109 : decode cX8_mean 109 = .ok (.idiv, 1) := by decide +kernel
theorem dX8_mean_110 : decode cX8_mean 110 = .ok (.ireturn, 1) := by decide +kernel
theorem dX8_bestWord_0 : decode cX8_bestWord 0 = .ok (.aload_n 0, 1) := by decide +kernel
theorem dX8_bestWord_1 : decode cX8_bestWord 1 = .ok (.getfield 36, 3) := by decide +kernel
theorem dX8_bestWord_4 : decode cX8_bestWord 4 = .ok (.aload_n 0, 1) := by decide +kernel
theorem dX8_bestWord_5 : decode cX8_bestWord 5 = .ok (.getfield 29, 3) := by decide +kernel
theorem dX8_bestWord_8 : decode cX8_bestWord 8 = .ok (.aload_n 0, 1) := by decide +kernel
theorem dX8_bestWord_9 : decode cX8_bestWord 9 = .ok (.getfield 10, 3) := by decide +kernel
theorem dX8_bestWord_12 : decode cX8_bestWord 12 = .ok (.invokevirtual 164, 3) := by decide +kernel
theorem dX8_bestWord_15 : decode cX8_bestWord 15 = .ok (.ireturn, 1) := by decide +kernel
theorem dX8_fewest_0 : decode cX8_fewest 0 = .ok (.aload_n 0, 1) := by decide +kernel
theorem dX8_fewest_1 : decode cX8_fewest 1 = .ok (.getfield 10, 3) := by decide +kernel
theorem dX8_fewest_4 : decode cX8_fewest 4 = .ok (.getfield 168, 3) := by decide +kernel
theorem dX8_fewest_7 : decode cX8_fewest 7 = .ok (.iconst 1, 1) := by decide +kernel
theorem dX8_fewest_8 : decode cX8_fewest 8 = .ok (.if_icmp .ge 10, 3) := by decide +kernel
theorem dX8_fewest_11 : decode cX8_fewest 11 = .ok (.aload_n 0, 1) := by decide +kernel
theorem dX8_fewest_12 : decode cX8_fewest 12 = .ok (.bipush (-3), 2) := by decide +kernel
theorem dX8_fewest_14 : decode cX8_fewest 14 = .ok (.invokevirtual 69, 3) := by decide +kernel
theorem dX8_fewest_17 : decode cX8_fewest 17 = .ok (.ireturn, 1) := by decide +kernel
theorem dX8_fewest_18 : decode cX8_fewest 18 = .ok (.iload_n 1, 1) := by decide +kernel
theorem dX8_fewest_19 : decode cX8_fewest 19 = .ok (.ifCond .ge 10, 3) := by decide +kernel
theorem dX8_fewest_22 : decode cX8_fewest 22 = .ok (.aload_n 0, 1) := by decide +kernel
theorem dX8_fewest_23 : decode cX8_fewest 23 = .ok (.bipush (-4), 2) := by decide +kernel
theorem dX8_fewest_25 : decode cX8_fewest 25 = .ok (.invokevirtual 69, 3) := by decide +kernel
theorem dX8_fewest_28 : decode cX8_fewest 28 = .ok (.ireturn, 1) := by decide +kernel
theorem dX8_fewest_29 : decode cX8_fewest 29 = .ok (.aload_n 0, 1) := by decide +kernel
theorem dX8_fewest_30 : decode cX8_fewest 30 = .ok (.getfield 36, 3) := by decide +kernel
theorem dX8_fewest_33 : decode cX8_fewest 33 = .ok (.aload_n 0, 1) := by decide +kernel
theorem dX8_fewest_34 : decode cX8_fewest 34 = .ok (.getfield 29, 3) := by decide +kernel
theorem dX8_fewest_37 : decode cX8_fewest 37 = .ok (.aload_n 0, 1) := by decide +kernel
theorem dX8_fewest_38 : decode cX8_fewest 38 = .ok (.getfield 10, 3) := by decide +kernel
theorem dX8_fewest_41 : decode cX8_fewest 41 = .ok (.iload_n 1, 1) := by decide +kernel
theorem dX8_fewest_42 : decode cX8_fewest 42 = .ok (.invokevirtual 171, 3) := by decide +kernel
theorem dX8_fewest_45 : decode cX8_fewest 45 = .ok (.ireturn, 1) := by decide +kernel
theorem dX8_edge_0 : decode cX8_edge 0 = .ok (.aload_n 0, 1) := by decide +kernel
theorem dX8_edge_1 : decode cX8_edge 1 = .ok (.getfield 36, 3) := by decide +kernel
theorem dX8_edge_4 : decode cX8_edge 4 = .ok (.aload_n 0, 1) := by decide +kernel
theorem dX8_edge_5 : decode cX8_edge 5 = .ok (.getfield 29, 3) := by decide +kernel
theorem dX8_edge_8 : decode cX8_edge 8 = .ok (.aload_n 0, 1) := by decide +kernel
theorem dX8_edge_9 : decode cX8_edge 9 = .ok (.getfield 10, 3) := by decide +kernel
theorem dX8_edge_12 : decode cX8_edge 12 = .ok (.invokevirtual 175, 3) := by decide +kernel
theorem dX8_edge_15 : decode cX8_edge 15 = .ok (.ireturn, 1) := by decide +kernel
theorem dX8_signs_0 : decode cX8_signs 0 = .ok (.aload_n 0, 1) := by decide +kernel
theorem dX8_signs_1 : decode cX8_signs 1 = .ok (.getfield 36, 3) := by decide +kernel
theorem dX8_signs_4 : decode cX8_signs 4 = .ok (.aload_n 0, 1) := by decide +kernel
theorem dX8_signs_5 : decode cX8_signs 5 = .ok (.getfield 29, 3) := by decide +kernel
theorem dX8_signs_8 : decode cX8_signs 8 = .ok (.aload_n 0, 1) := by decide +kernel
theorem dX8_signs_9 : decode cX8_signs 9 = .ok (.getfield 10, 3) := by decide +kernel
theorem dX8_signs_12 : decode cX8_signs 12 = .ok (.bipush 7, 2) := by decide +kernel
theorem dX8_signs_14 : decode cX8_signs 14 = .ok (.invokevirtual 178, 3) := by decide +kernel
theorem dX8_signs_17 : decode cX8_signs 17 = .ok (.ireturn, 1) := by decide +kernel
theorem dX8_bestRule_0 : decode cX8_bestRule 0 = .ok (.aload_n 0, 1) := by decide +kernel
theorem dX8_bestRule_1 : decode cX8_bestRule 1 = .ok (.getfield 36, 3) := by decide +kernel
theorem dX8_bestRule_4 : decode cX8_bestRule 4 = .ok (.aload_n 0, 1) := by decide +kernel
theorem dX8_bestRule_5 : decode cX8_bestRule 5 = .ok (.getfield 29, 3) := by decide +kernel
theorem dX8_bestRule_8 : decode cX8_bestRule 8 = .ok (.aload_n 0, 1) := by decide +kernel
theorem dX8_bestRule_9 : decode cX8_bestRule 9 = .ok (.getfield 10, 3) := by decide +kernel
theorem dX8_bestRule_12 : decode cX8_bestRule 12 = .ok (.iconst 4, 1) := by decide +kernel
theorem dX8_bestRule_13 : decode cX8_bestRule 13 = .ok (.invokevirtual 178, 3) := by decide +kernel
theorem dX8_bestRule_16 : decode cX8_bestRule 16 = .ok (.ireturn, 1) := by decide +kernel
theorem dX8_buys_0 : decode cX8_buys 0 = .ok (.aload_n 0, 1) := by decide +kernel
theorem dX8_buys_1 : decode cX8_buys 1 = .ok (.getfield 10, 3) := by decide +kernel
theorem dX8_buys_4 : decode cX8_buys 4 = .ok (.iload_n 1, 1) := by decide +kernel
theorem dX8_buys_5 : decode cX8_buys 5 = .ok (.invokevirtual 84, 3) := by decide +kernel
theorem dX8_buys_8 : decode cX8_buys 8 = .ok (.ifCond .eq 19, 3) := by decide +kernel
theorem dX8_buys_11 : decode cX8_buys 11 = .ok (.aload_n 0, 1) := by decide +kernel
theorem dX8_buys_12 : decode cX8_buys 12 = .ok (.getfield 10, 3) := by decide +kernel
theorem dX8_buys_15 : decode cX8_buys 15 = .ok (.iload_n 2, 1) := by decide +kernel
theorem dX8_buys_16 : decode cX8_buys 16 = .ok (.invokevirtual 84, 3) := by decide +kernel
theorem dX8_buys_19 : decode cX8_buys 19 = .ok (.ifCond .eq 8, 3) := by decide +kernel
theorem dX8_buys_22 : decode cX8_buys 22 = .ok (.iload_n 1, 1) := by decide +kernel
theorem dX8_buys_23 : decode cX8_buys 23 = .ok (.iload_n 2, 1) := by decide +kernel
theorem dX8_buys_24 : decode cX8_buys 24 = .ok (.if_icmp .ne 12, 3) := by decide +kernel
theorem dX8_buys_27 : decode cX8_buys 27 = .ok (.ldc 181, 2) := by decide +kernel
theorem dX8_buys_29 : decode cX8_buys 29 = .ok (.aload_n 0, 1) := by decide +kernel
theorem dX8_buys_30 : decode cX8_buys 30 = .ok (.iconst (-1), 1) := by decide +kernel
theorem dX8_buys_31 : decode cX8_buys 31 = .ok (.invokevirtual 69, 3) := by decide +kernel
theorem dX8_buys_34 : decode cX8_buys 34 = .ok (.isub, 1) := by decide +kernel
theorem dX8_buys_35 : decode cX8_buys 35 = .ok (.ireturn, 1) := by decide +kernel
theorem dX8_buys_36 : decode cX8_buys 36 = .ok (.iload_n 3, 1) := by decide +kernel
theorem dX8_buys_37 : decode cX8_buys 37 = .ok (.ifCond .ge 13, 3) := by decide +kernel
theorem dX8_buys_40 : decode cX8_buys 40 = .ok (.ldc 181, 2) := by decide +kernel
theorem dX8_buys_42 : decode cX8_buys 42 = .ok (.aload_n 0, 1) := by decide +kernel
theorem dX8_buys_43 : decode cX8_buys 43 = .ok (.bipush (-4), 2) := by decide +kernel
theorem dX8_buys_45 : decode cX8_buys 45 = .ok (.invokevirtual 69, 3) := by decide +kernel
theorem dX8_buys_48 : decode cX8_buys 48 = .ok (.isub, 1) := by decide +kernel
theorem dX8_buys_49 : decode cX8_buys 49 = .ok (.ireturn, 1) := by decide +kernel
theorem dX8_buys_50 : decode cX8_buys 50 = .ok (.iload_n 3, 1) := by decide +kernel
theorem dX8_buys_51 : decode cX8_buys 51 = .ok (.bipush 100, 2) := by decide +kernel
theorem dX8_buys_53 : decode cX8_buys 53 = .ok (.if_icmp .le 13, 3) := by decide +kernel
theorem dX8_buys_56 : decode cX8_buys 56 = .ok (.ldc 181, 2) := by decide +kernel
theorem dX8_buys_58 : decode cX8_buys 58 = .ok (.aload_n 0, 1) := by decide +kernel
theorem dX8_buys_59 : decode cX8_buys 59 = .ok (.bipush (-6), 2) := by decide +kernel
theorem dX8_buys_61 : decode cX8_buys 61 = .ok (.invokevirtual 69, 3) := by decide +kernel
theorem dX8_buys_64 : decode cX8_buys 64 = .ok (.isub, 1) := by decide +kernel
theorem dX8_buys_65 : decode cX8_buys 65 = .ok (.ireturn, 1) := by decide +kernel
theorem dX8_buys_66 : decode cX8_buys 66 = .ok (.aload_n 0, 1) := by decide +kernel
theorem dX8_buys_67 : decode cX8_buys 67 = .ok (.getfield 36, 3) := by decide +kernel
theorem dX8_buys_70 : decode cX8_buys 70 = .ok (.aload_n 0, 1) := by decide +kernel
theorem dX8_buys_71 : decode cX8_buys 71 = .ok (.getfield 29, 3) := by decide +kernel
theorem dX8_buys_74 : decode cX8_buys 74 = .ok (.aload_n 0, 1) := by decide +kernel
theorem dX8_buys_75 : decode cX8_buys 75 = .ok (.getfield 10, 3) := by decide +kernel
theorem dX8_buys_78 : decode cX8_buys 78 = .ok (.iload_n 1, 1) := by decide +kernel
theorem dX8_buys_79 : decode cX8_buys 79 = .ok (.iload_n 2, 1) := by decide +kernel
theorem dX8_buys_80 : decode cX8_buys 80 = .ok (.iload_n 3, 1) := by decide +kernel
theorem dX8_buys_81 : decode cX8_buys 81 = .ok (.invokevirtual 182, 3) := by decide +kernel
theorem dX8_buys_84 : decode cX8_buys 84 = .ok (.ireturn, 1) := by decide +kernel
theorem dX8_fails_0 : decode cX8_fails 0 = .ok (.aload_n 0, 1) := by decide +kernel
theorem dX8_fails_1 : decode cX8_fails 1 = .ok (.getfield 10, 3) := by decide +kernel
theorem dX8_fails_4 : decode cX8_fails 4 = .ok (.iload_n 1, 1) := by decide +kernel
theorem dX8_fails_5 : decode cX8_fails 5 = .ok (.invokevirtual 84, 3) := by decide +kernel
theorem dX8_fails_8 : decode cX8_fails 8 = .ok (.ifCond .eq 10, 3) := by decide +kernel
theorem dX8_fails_11 : decode cX8_fails 11 = .ok (.iload_n 2, 1) := by decide +kernel
theorem dX8_fails_12 : decode cX8_fails 12 = .ok (.invokestatic 101, 3) := by decide +kernel
theorem dX8_fails_15 : decode cX8_fails 15 = .ok (.ifCond .ne 12, 3) := by decide +kernel
theorem dX8_fails_18 : decode cX8_fails 18 = .ok (.ldc 181, 2) := by decide +kernel
theorem dX8_fails_20 : decode cX8_fails 20 = .ok (.aload_n 0, 1) := by decide +kernel
theorem dX8_fails_21 : decode cX8_fails 21 = .ok (.iconst (-1), 1) := by decide +kernel
theorem dX8_fails_22 : decode cX8_fails 22 = .ok (.invokevirtual 69, 3) := by decide +kernel
theorem dX8_fails_25 : decode cX8_fails 25 = .ok (.isub, 1) := by decide +kernel
theorem dX8_fails_26 : decode cX8_fails 26 = .ok (.ireturn, 1) := by decide +kernel
theorem dX8_fails_27 : decode cX8_fails 27 = .ok (.iload_n 3, 1) := by decide +kernel
theorem dX8_fails_28 : decode cX8_fails 28 = .ok (.iconst 1, 1) := by decide +kernel
theorem dX8_fails_29 : decode cX8_fails 29 = .ok (.if_icmp .ge 13, 3) := by decide +kernel
theorem dX8_fails_32 : decode cX8_fails 32 = .ok (.ldc 181, 2) := by decide +kernel
theorem dX8_fails_34 : decode cX8_fails 34 = .ok (.aload_n 0, 1) := by decide +kernel
theorem dX8_fails_35 : decode cX8_fails 35 = .ok (.bipush (-4), 2) := by decide +kernel
theorem dX8_fails_37 : decode cX8_fails 37 = .ok (.invokevirtual 69, 3) := by decide +kernel
theorem dX8_fails_40 : decode cX8_fails 40 = .ok (.isub, 1) := by decide +kernel
theorem dX8_fails_41 : decode cX8_fails 41 = .ok (.ireturn, 1) := by decide +kernel
theorem dX8_fails_42 : decode cX8_fails 42 = .ok (.iload_n 3, 1) := by decide +kernel
theorem dX8_fails_43 : decode cX8_fails 43 = .ok (.bipush 99, 2) := by decide +kernel
theorem dX8_fails_45 : decode cX8_fails 45 = .ok (.if_icmp .le 13, 3) := by decide +kernel
theorem dX8_fails_48 : decode cX8_fails 48 = .ok (.ldc 181, 2) := by decide +kernel
theorem dX8_fails_50 : decode cX8_fails 50 = .ok (.aload_n 0, 1) := by decide +kernel
theorem dX8_fails_51 : decode cX8_fails 51 = .ok (.bipush (-6), 2) := by decide +kernel
theorem dX8_fails_53 : decode cX8_fails 53 = .ok (.invokevirtual 69, 3) := by decide +kernel
theorem dX8_fails_56 : decode cX8_fails 56 = .ok (.isub, 1) := by decide +kernel
theorem dX8_fails_57 : decode cX8_fails 57 = .ok (.ireturn, 1) := by decide +kernel
theorem dX8_fails_58 : decode cX8_fails 58 = .ok (.aload_n 0, 1) := by decide +kernel
theorem dX8_fails_59 : decode cX8_fails 59 = .ok (.getfield 36, 3) := by decide +kernel
theorem dX8_fails_62 : decode cX8_fails 62 = .ok (.aload_n 0, 1) := by decide +kernel
theorem dX8_fails_63 : decode cX8_fails 63 = .ok (.getfield 29, 3) := by decide +kernel
theorem dX8_fails_66 : decode cX8_fails 66 = .ok (.aload_n 0, 1) := by decide +kernel
theorem dX8_fails_67 : decode cX8_fails 67 = .ok (.getfield 10, 3) := by decide +kernel
theorem dX8_fails_70 : decode cX8_fails 70 = .ok (.iload_n 1, 1) := by decide +kernel
