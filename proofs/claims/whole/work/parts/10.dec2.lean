theorem dX8_fails_71 : decode cX8_fails 71 = .ok (.iload_n 2, 1) := by decide +kernel
theorem dX8_fails_72 : decode cX8_fails 72 = .ok (.iload_n 3, 1) := by decide +kernel
theorem dX8_fails_73 : decode cX8_fails 73 = .ok (.invokevirtual 186, 3) := by decide +kernel
theorem dX8_fails_76 : decode cX8_fails 76 = .ok (.ireturn, 1) := by decide +kernel
theorem dX8_weave_0 : decode cX8_weave 0 = .ok (.aload_n 0, 1) := by decide +kernel
theorem dX8_weave_1 : decode cX8_weave 1 = .ok (.getfield 43, 3) := by decide +kernel
theorem dX8_weave_4 : decode cX8_weave 4 = .ok (.aload_n 0, 1) := by decide +kernel
theorem dX8_weave_5 : decode cX8_weave 5 = .ok (.getfield 10, 3) := by decide +kernel
theorem dX8_weave_8 : decode cX8_weave 8 = .ok (.invokevirtual 189, 3) := by decide +kernel
theorem dX8_weave_11 : decode cX8_weave 11 = .ok (.ireturn, 1) := by decide +kernel
theorem dX8_order_0 : decode cX8_order 0 = .ok (.iload_n 1, 1) := by decide +kernel
theorem dX8_order_1 : decode cX8_order 1 = .ok (.iconst (-1), 1) := by decide +kernel
theorem dX8_order_2 : decode cX8_order 2 = .ok (.if_icmp .ge 10, 3) := by decide +kernel
theorem dX8_order_5 : decode cX8_order 5 = .ok (.aload_n 0, 1) := by decide +kernel
theorem dX8_order_6 : decode cX8_order 6 = .ok (.bipush (-4), 2) := by decide +kernel
theorem dX8_order_8 : decode cX8_order 8 = .ok (.invokevirtual 69, 3) := by decide +kernel
theorem dX8_order_11 : decode cX8_order 11 = .ok (.ireturn, 1) := by decide +kernel
theorem dX8_order_12 : decode cX8_order 12 = .ok (.aload_n 0, 1) := by decide +kernel
theorem dX8_order_13 : decode cX8_order 13 = .ok (.getfield 43, 3) := by decide +kernel
theorem dX8_order_16 : decode cX8_order 16 = .ok (.aload_n 0, 1) := by decide +kernel
theorem dX8_order_17 : decode cX8_order 17 = .ok (.getfield 10, 3) := by decide +kernel
theorem dX8_order_20 : decode cX8_order 20 = .ok (.invokevirtual 192, 3) := by decide +kernel
theorem dX8_order_23 : decode cX8_order 23 = .ok (.iload_n 1, 1) := by decide +kernel
theorem dX8_order_24 : decode cX8_order 24 = .ok (.iconst (-1), 1) := by decide +kernel
theorem dX8_order_25 : decode cX8_order 25 = .ok (.if_icmp .ne 11, 3) := by decide +kernel
theorem dX8_order_28 : decode cX8_order 28 = .ok (.aload_n 0, 1) := by decide +kernel
theorem dX8_order_29 : decode cX8_order 29 = .ok (.getfield 43, 3) := by decide +kernel
theorem dX8_order_32 : decode cX8_order 32 = .ok (.getfield 195, 3) := by decide +kernel
theorem dX8_order_35 : decode cX8_order 35 = .ok (.ireturn, 1) := by decide +kernel
theorem dX8_order_36 : decode cX8_order 36 = .ok (.aload_n 0, 1) := by decide +kernel
theorem dX8_order_37 : decode cX8_order 37 = .ok (.getfield 10, 3) := by decide +kernel
theorem dX8_order_40 : decode cX8_order 40 = .ok (.iload_n 1, 1) := by decide +kernel
theorem dX8_order_41 : decode cX8_order 41 = .ok (.invokevirtual 98, 3) := by decide +kernel
theorem dX8_order_44 : decode cX8_order 44 = .ok (.ifCond .eq 15, 3) := by decide +kernel
theorem dX8_order_47 : decode cX8_order 47 = .ok (.aload_n 0, 1) := by decide +kernel
theorem dX8_order_48 : decode cX8_order 48 = .ok (.getfield 43, 3) := by decide +kernel
theorem dX8_order_51 : decode cX8_order 51 = .ok (.getfield 198, 3) := by decide +kernel
theorem dX8_order_54 : decode cX8_order 54 = .ok (.iload_n 1, 1) := by decide +kernel
theorem dX8_order_55 : decode cX8_order 55 = .ok (.iaload, 1) := by decide +kernel
theorem dX8_order_56 : decode cX8_order 56 = .ok (.goto 5, 3) := by decide +kernel
theorem dX8_order_59 : decode cX8_order 59 = .ok (.bipush (-9), 2) := by decide +kernel
theorem dX8_order_61 : decode cX8_order 61 = .ok (.ireturn, 1) := by decide +kernel
theorem dX8_rests_0 : decode cX8_rests 0 = .ok (.aload_n 0, 1) := by decide +kernel
theorem dX8_rests_1 : decode cX8_rests 1 = .ok (.getfield 10, 3) := by decide +kernel
theorem dX8_rests_4 : decode cX8_rests 4 = .ok (.iload_n 1, 1) := by decide +kernel
theorem dX8_rests_5 : decode cX8_rests 5 = .ok (.invokevirtual 84, 3) := by decide +kernel
theorem dX8_rests_8 : decode cX8_rests 8 = .ok (.ifCond .ne 9, 3) := by decide +kernel
theorem dX8_rests_11 : decode cX8_rests 11 = .ok (.aload_n 0, 1) := by decide +kernel
theorem dX8_rests_12 : decode cX8_rests 12 = .ok (.iconst (-1), 1) := by decide +kernel
theorem dX8_rests_13 : decode cX8_rests 13 = .ok (.invokevirtual 69, 3) := by decide +kernel
theorem dX8_rests_16 : decode cX8_rests 16 = .ok (.ireturn, 1) := by decide +kernel
theorem dX8_rests_17 : decode cX8_rests 17 = .ok (.aload_n 0, 1) := by decide +kernel
theorem dX8_rests_18 : decode cX8_rests 18 = .ok (.getfield 50, 3) := by decide +kernel
theorem dX8_rests_21 : decode cX8_rests 21 = .ok (.aload_n 0, 1) := by decide +kernel
theorem dX8_rests_22 : decode cX8_rests 22 = .ok (.getfield 10, 3) := by decide +kernel
theorem dX8_rests_25 : decode cX8_rests 25 = .ok (.invokevirtual 201, 3) := by decide +kernel
theorem dX8_rests_28 : decode cX8_rests 28 = .ok (.aload_n 0, 1) := by decide +kernel
theorem dX8_rests_29 : decode cX8_rests 29 = .ok (.getfield 50, 3) := by decide +kernel
theorem dX8_rests_32 : decode cX8_rests 32 = .ok (.getfield 204, 3) := by decide +kernel
theorem dX8_rests_35 : decode cX8_rests 35 = .ok (.iload_n 1, 1) := by decide +kernel
theorem dX8_rests_36 : decode cX8_rests 36 = .ok (.iaload, 1) := by decide +kernel
theorem dX8_rests_37 : decode cX8_rests 37 = .ok (.ireturn, 1) := by decide +kernel
theorem dX8_row_0 : decode cX8_row 0 = .ok (.iload_n 1, 1) := by decide +kernel
theorem dX8_row_1 : decode cX8_row 1 = .ok (.ifCond .ge 10, 3) := by decide +kernel
theorem dX8_row_4 : decode cX8_row 4 = .ok (.aload_n 0, 1) := by decide +kernel
theorem dX8_row_5 : decode cX8_row 5 = .ok (.bipush (-4), 2) := by decide +kernel
theorem dX8_row_7 : decode cX8_row 7 = .ok (.invokevirtual 69, 3) := by decide +kernel
theorem dX8_row_10 : decode cX8_row 10 = .ok (.ireturn, 1) := by decide +kernel
theorem dX8_row_11 : decode cX8_row 11 = .ok (.iload_n 1, 1) := by decide +kernel
theorem dX8_row_12 : decode cX8_row 12 = .ok (.sipush 32767, 3) := by decide +kernel
theorem dX8_row_15 : decode cX8_row 15 = .ok (.if_icmp .gt 11, 3) := by decide +kernel
theorem dX8_row_18 : decode cX8_row 18 = .ok (.aload_n 0, 1) := by decide +kernel
theorem dX8_row_19 : decode cX8_row 19 = .ok (.getfield 61, 3) := by decide +kernel
theorem dX8_row_22 : decode cX8_row 22 = .ok (.iconst 5, 1) := by decide +kernel
theorem dX8_row_23 : decode cX8_row 23 = .ok (.if_icmp .lt 10, 3) := by decide +kernel
theorem dX8_row_26 : decode cX8_row 26 = .ok (.aload_n 0, 1) := by decide +kernel
theorem dX8_row_27 : decode cX8_row 27 = .ok (.bipush (-6), 2) := by decide +kernel
theorem dX8_row_29 : decode cX8_row 29 = .ok (.invokevirtual 69, 3) := by decide +kernel
theorem dX8_row_32 : decode cX8_row 32 = .ok (.ireturn, 1) := by decide +kernel
theorem dX8_row_33 : decode cX8_row 33 = .ok (.aload_n 0, 1) := by decide +kernel
theorem dX8_row_34 : decode cX8_row 34 = .ok (.getfield 54, 3) := by decide +kernel
theorem dX8_row_37 : decode cX8_row 37 = .ok (.aload_n 0, 1) := by decide +kernel
theorem dX8_row_38 : decode cX8_row 38 = .ok (.getfield 61, 3) := by decide +kernel
theorem dX8_row_41 : decode cX8_row 41 = .ok (.iload_n 1, 1) := by decide +kernel
theorem dX8_row_42 : decode cX8_row 42 = .ok (.iastore, 1) := by decide +kernel
theorem dX8_row_43 : decode cX8_row 43 = .ok (.aload_n 0, 1) := by decide +kernel
theorem dX8_row_44 : decode cX8_row 44 = .ok (.dup, 1) := by decide +kernel
theorem dX8_row_45 : decode cX8_row 45 = .ok (.getfield 61, 3) := by decide +kernel
theorem dX8_row_48 : decode cX8_row 48 = .ok (.iconst 1, 1) := by decide +kernel
theorem dX8_row_49 : decode cX8_row 49 = .ok (.iadd, 1) := by decide +kernel
theorem dX8_row_50 : decode cX8_row 50 = .ok (.putfield 61, 3) := by decide +kernel
theorem dX8_row_53 : decode cX8_row 53 = .ok (.aload_n 0, 1) := by decide +kernel
theorem dX8_row_54 : decode cX8_row 54 = .ok (.getfield 61, 3) := by decide +kernel
theorem dX8_row_57 : decode cX8_row 57 = .ok (.ireturn, 1) := by decide +kernel
theorem dX8_judge_0 : decode cX8_judge 0 = .ok (.aload_n 0, 1) := by decide +kernel
theorem dX8_judge_1 : decode cX8_judge 1 = .ok (.getfield 61, 3) := by decide +kernel
theorem dX8_judge_4 : decode cX8_judge 4 = .ok (.istore_n 1, 1) := by decide +kernel
theorem dX8_judge_5 : decode cX8_judge 5 = .ok (.aload_n 0, 1) := by decide +kernel
theorem dX8_judge_6 : decode cX8_judge 6 = .ok (.iconst 0, 1) := by decide +kernel
theorem dX8_judge_7 : decode cX8_judge 7 = .ok (.putfield 61, 3) := by decide +kernel
theorem dX8_judge_10 : decode cX8_judge 10 = .ok (.iload_n 1, 1) := by decide +kernel
theorem dX8_judge_11 : decode cX8_judge 11 = .ok (.aload_n 0, 1) := by decide +kernel
theorem dX8_judge_12 : decode cX8_judge 12 = .ok (.getfield 10, 3) := by decide +kernel
theorem dX8_judge_15 : decode cX8_judge 15 = .ok (.getfield 207, 3) := by decide +kernel
theorem dX8_judge_18 : decode cX8_judge 18 = .ok (.invokestatic 210, 3) := by decide +kernel
theorem dX8_judge_21 : decode cX8_judge 21 = .ok (.istore_n 2, 1) := by decide +kernel
theorem dX8_judge_22 : decode cX8_judge 22 = .ok (.aload_n 0, 1) := by decide +kernel
theorem dX8_judge_23 : decode cX8_judge 23 = .ok (.getfield 29, 3) := by decide +kernel
theorem dX8_judge_26 : decode cX8_judge 26 = .ok (.aload_n 0, 1) := by decide +kernel
theorem dX8_judge_27 : decode cX8_judge 27 = .ok (.getfield 10, 3) := by decide +kernel
theorem dX8_judge_30 : decode cX8_judge 30 = .ok (.invokevirtual 123, 3) := by decide +kernel
theorem dX8_judge_33 : decode cX8_judge 33 = .ok (.iconst 0, 1) := by decide +kernel
theorem dX8_judge_34 : decode cX8_judge 34 = .ok (.istore_n 3, 1) := by decide +kernel
theorem dX8_judge_35 : decode cX8_judge 35 = .ok (.iload_n 3, 1) := by decide +kernel
theorem dX8_judge_36 : decode cX8_judge 36 = .ok (.iload_n 2, 1) := by decide +kernel
theorem dX8_judge_37 : decode cX8_judge 37 = .ok (.if_icmp .ge 28, 3) := by decide +kernel
theorem dX8_judge_40 : decode cX8_judge 40 = .ok (.aload_n 0, 1) := by decide +kernel
theorem dX8_judge_41 : decode cX8_judge 41 = .ok (.getfield 54, 3) := by decide +kernel
theorem dX8_judge_44 : decode cX8_judge 44 = .ok (.iload_n 3, 1) := by decide +kernel
theorem dX8_judge_45 : decode cX8_judge 45 = .ok (.iaload, 1) := by decide +kernel
theorem dX8_judge_46 : decode cX8_judge 46 = .ok (.aload_n 0, 1) := by decide +kernel
theorem dX8_judge_47 : decode cX8_judge 47 = .ok (.getfield 29, 3) := by decide +kernel
theorem dX8_judge_50 : decode cX8_judge 50 = .ok (.iload_n 3, 1) := by decide +kernel
theorem dX8_judge_51 : decode cX8_judge 51 = .ok (.invokevirtual 215, 3) := by decide +kernel
theorem dX8_judge_54 : decode cX8_judge 54 = .ok (.if_icmp .eq 5, 3) := by decide +kernel
theorem dX8_judge_57 : decode cX8_judge 57 = .ok (.iload_n 3, 1) := by decide +kernel
theorem dX8_judge_58 : decode cX8_judge 58 = .ok (.ireturn, 1) := by decide +kernel
theorem dX8_judge_59 : decode cX8_judge 59 = .ok (.iinc 3 1, 3) := by decide +kernel
theorem dX8_judge_62 : decode cX8_judge 62 = .ok (.goto (-27), 3) := by decide +kernel
theorem dX8_judge_65 : decode cX8_judge 65 = .ok (.iload_n 1, 1) := by decide +kernel
theorem dX8_judge_66 : decode cX8_judge 66 = .ok (.aload_n 0, 1) := by decide +kernel
theorem dX8_judge_67 : decode cX8_judge 67 = .ok (.getfield 10, 3) := by decide +kernel
theorem dX8_judge_70 : decode cX8_judge 70 = .ok (.getfield 207, 3) := by decide +kernel
theorem dX8_judge_73 : decode cX8_judge 73 = .ok (.if_icmp .ne 8, 3) := by decide +kernel
theorem dX8_judge_76 : decode cX8_judge 76 = .ok (.bipush (-9), 2) := by decide +kernel
theorem dX8_judge_78 : decode cX8_judge 78 = .ok (.goto 4, 3) := by decide +kernel
theorem dX8_judge_81 : decode cX8_judge 81 = .ok (.iload_n 2, 1) := by decide +kernel
theorem dX8_judge_82 : decode cX8_judge 82 = .ok (.ireturn, 1) := by decide +kernel
theorem dX8_image_0 : decode cX8_image 0 = .ok (.aload_n 0, 1) := by decide +kernel
theorem dX8_image_1 : decode cX8_image 1 = .ok (.getfield 16, 3) := by decide +kernel
theorem dX8_image_4 : decode cX8_image 4 = .ok (.aload_n 0, 1) := by decide +kernel
theorem dX8_image_5 : decode cX8_image 5 = .ok (.getfield 10, 3) := by decide +kernel
theorem dX8_image_8 : decode cX8_image 8 = .ok (.invokevirtual 218, 3) := by decide +kernel
theorem dX8_image_11 : decode cX8_image 11 = .ok (.aload_n 0, 1) := by decide +kernel
theorem dX8_image_12 : decode cX8_image 12 = .ok (.iconst 1, 1) := by decide +kernel
theorem dX8_image_13 : decode cX8_image 13 = .ok (.putfield 65, 3) := by decide +kernel
theorem dX8_image_16 : decode cX8_image 16 = .ok (.aload_n 0, 1) := by decide +kernel
theorem dX8_image_17 : decode cX8_image 17 = .ok (.getfield 10, 3) := by decide +kernel
theorem dX8_image_20 : decode cX8_image 20 = .ok (.getfield 168, 3) := by decide +kernel
theorem dX8_image_23 : decode cX8_image 23 = .ok (.ireturn, 1) := by decide +kernel
theorem dX8_on_0 : decode cX8_on 0 = .ok (.aload_n 0, 1) := by decide +kernel
theorem dX8_on_1 : decode cX8_on 1 = .ok (.getfield 65, 3) := by decide +kernel
theorem dX8_on_4 : decode cX8_on 4 = .ok (.ifCond .ne 10, 3) := by decide +kernel
theorem dX8_on_7 : decode cX8_on 7 = .ok (.aload_n 0, 1) := by decide +kernel
theorem dX8_on_8 : decode cX8_on 8 = .ok (.bipush (-3), 2) := by decide +kernel
theorem dX8_on_10 : decode cX8_on 10 = .ok (.invokevirtual 69, 3) := by decide +kernel
theorem dX8_on_13 : decode cX8_on 13 = .ok (.ireturn, 1) := by decide +kernel
theorem dX8_on_14 : decode cX8_on 14 = .ok (.aload_n 0, 1) := by decide +kernel
theorem dX8_on_15 : decode cX8_on 15 = .ok (.getfield 10, 3) := by decide +kernel
theorem dX8_on_18 : decode cX8_on 18 = .ok (.aload_n 0, 1) := by decide +kernel
theorem dX8_on_19 : decode cX8_on 19 = .ok (.getfield 16, 3) := by decide +kernel
theorem dX8_on_22 : decode cX8_on 22 = .ok (.invokevirtual 218, 3) := by decide +kernel
theorem dX8_on_25 : decode cX8_on 25 = .ok (.aload_n 0, 1) := by decide +kernel
theorem dX8_on_26 : decode cX8_on 26 = .ok (.getfield 10, 3) := by decide +kernel
theorem dX8_on_29 : decode cX8_on 29 = .ok (.getfield 168, 3) := by decide +kernel
theorem dX8_on_32 : decode cX8_on 32 = .ok (.ireturn, 1) := by decide +kernel
theorem dX8_count_0 : decode cX8_count 0 = .ok (.iload_n 1, 1) := by decide +kernel
theorem dX8_count_1 : decode cX8_count 1 = .ok (.tableswitch 107 0 6 #[43, 51, 59, 67, 86, 94, 99], 43) := by decide +kernel
theorem dX8_count_44 : decode cX8_count 44 = .ok (.aload_n 0, 1) := by decide +kernel
theorem dX8_count_45 : decode cX8_count 45 = .ok (.getfield 10, 3) := by decide +kernel
theorem dX8_count_48 : decode cX8_count 48 = .ok (.getfield 207, 3) := by decide +kernel
theorem dX8_count_51 : decode cX8_count 51 = .ok (.ireturn, 1) := by decide +kernel
theorem dX8_count_52 : decode cX8_count 52 = .ok (.aload_n 0, 1) := by decide +kernel
theorem dX8_count_53 : decode cX8_count 53 = .ok (.getfield 10, 3) := by decide +kernel
theorem dX8_count_56 : decode cX8_count 56 = .ok (.getfield 168, 3) := by decide +kernel
theorem dX8_count_59 : decode cX8_count 59 = .ok (.ireturn, 1) := by decide +kernel
theorem dX8_count_60 : decode cX8_count 60 = .ok (.aload_n 0, 1) := by decide +kernel
theorem dX8_count_61 : decode cX8_count 61 = .ok (.getfield 10, 3) := by decide +kernel
theorem dX8_count_64 : decode cX8_count 64 = .ok (.invokevirtual 221, 3) := by decide +kernel
theorem dX8_count_67 : decode cX8_count 67 = .ok (.ireturn, 1) := by decide +kernel
theorem dX8_count_68 : decode cX8_count 68 = .ok (.aload_n 0, 1) := by decide +kernel
theorem dX8_count_69 : decode cX8_count 69 = .ok (.getfield 29, 3) := by decide +kernel
theorem dX8_count_72 : decode cX8_count 72 = .ok (.aload_n 0, 1) := by decide +kernel
theorem dX8_count_73 : decode cX8_count 73 = .ok (.getfield 10, 3) := by decide +kernel
theorem dX8_count_76 : decode cX8_count 76 = .ok (.invokevirtual 123, 3) := by decide +kernel
theorem dX8_count_79 : decode cX8_count 79 = .ok (.aload_n 0, 1) := by decide +kernel
theorem dX8_count_80 : decode cX8_count 80 = .ok (.getfield 29, 3) := by decide +kernel
theorem dX8_count_83 : decode cX8_count 83 = .ok (.invokevirtual 224, 3) := by decide +kernel
theorem dX8_count_86 : decode cX8_count 86 = .ok (.ireturn, 1) := by decide +kernel
theorem dX8_count_87 : decode cX8_count 87 = .ok (.aload_n 0, 1) := by decide +kernel
theorem dX8_count_88 : decode cX8_count 88 = .ok (.getfield 10, 3) := by decide +kernel
theorem dX8_count_91 : decode cX8_count 91 = .ok (.invokevirtual 227, 3) := by decide +kernel
theorem dX8_count_94 : decode cX8_count 94 = .ok (.ireturn, 1) := by decide +kernel
theorem dX8_count_95 : decode cX8_count 95 = .ok (.aload_n 0, 1) := by decide +kernel
theorem dX8_count_96 : decode cX8_count 96 = .ok (.getfield 61, 3) := by decide +kernel
theorem dX8_count_99 : decode cX8_count 99 = .ok (.ireturn, 1) := by decide +kernel
theorem dX8_count_100 : decode cX8_count 100 = .ok (.aload_n 0, 1) := by decide +kernel
theorem dX8_count_101 : decode cX8_count 101 = .ok (.getfield 22, 3) := by decide +kernel
theorem dX8_count_104 : decode cX8_count 104 = .ok (.getfield 73, 3) := by decide +kernel
theorem dX8_count_107 : decode cX8_count 107 = .ok (.ireturn, 1) := by decide +kernel
theorem dX8_count_108 : decode cX8_count 108 = .ok (.iload_n 1, 1) := by decide +kernel
theorem dX8_count_109 : decode cX8_count 109 = .ok (.bipush 10, 2) := by decide +kernel
theorem dX8_count_111 : decode cX8_count 111 = .ok (.if_icmp .le 21, 3) := by decide +kernel
theorem dX8_count_114 : decode cX8_count 114 = .ok (.iload_n 1, 1) := by decide +kernel
theorem dX8_count_115 : decode cX8_count 115 = .ok (.bipush 16, 2) := by decide +kernel
theorem dX8_count_117 : decode cX8_count 117 = .ok (.if_icmp .gt 15, 3) := by decide +kernel
theorem dX8_count_120 : decode cX8_count 120 = .ok (.aload_n 0, 1) := by decide +kernel
theorem dX8_count_121 : decode cX8_count 121 = .ok (.getfield 58, 3) := by decide +kernel
theorem dX8_count_124 : decode cX8_count 124 = .ok (.iload_n 1, 1) := by decide +kernel
theorem dX8_count_125 : decode cX8_count 125 = .ok (.bipush 10, 2) := by decide +kernel
theorem dX8_count_127 : decode cX8_count 127 = .ok (.isub, 1) := by decide +kernel
theorem dX8_count_128 : decode cX8_count 128 = .ok (.iaload, 1) := by decide +kernel
theorem dX8_count_129 : decode cX8_count 129 = .ok (.goto 5, 3) := by decide +kernel
theorem dX8_count_132 : decode cX8_count 132 = .ok (.bipush (-9), 2) := by decide +kernel
theorem dX8_count_134 : decode cX8_count 134 = .ok (.ireturn, 1) := by decide +kernel
theorem dX8_refuse_0 : decode cX8_refuse 0 = .ok (.iload_n 1, 1) := by decide +kernel
theorem dX8_refuse_1 : decode cX8_refuse 1 = .ok (.ineg, 1) := by decide +kernel
theorem dX8_refuse_2 : decode cX8_refuse 2 = .ok (.istore_n 2, 1) := by decide +kernel
theorem dX8_refuse_3 : decode cX8_refuse 3 = .ok (.iload_n 2, 1) := by decide +kernel
theorem dX8_refuse_4 : decode cX8_refuse 4 = .ok (.iconst 1, 1) := by decide +kernel
theorem dX8_refuse_5 : decode cX8_refuse 5 = .ok (.if_icmp .lt 19, 3) := by decide +kernel
theorem dX8_refuse_8 : decode cX8_refuse 8 = .ok (.iload_n 2, 1) := by decide +kernel
theorem dX8_refuse_9 : decode cX8_refuse 9 = .ok (.bipush 6, 2) := by decide +kernel
theorem dX8_refuse_11 : decode cX8_refuse 11 = .ok (.if_icmp .gt 13, 3) := by decide +kernel
theorem dX8_refuse_14 : decode cX8_refuse 14 = .ok (.aload_n 0, 1) := by decide +kernel
theorem dX8_refuse_15 : decode cX8_refuse 15 = .ok (.getfield 58, 3) := by decide +kernel
theorem dX8_refuse_18 : decode cX8_refuse 18 = .ok (.iload_n 2, 1) := by decide +kernel
theorem dX8_refuse_19 : decode cX8_refuse 19 = .ok (.dup2, 1) := by decide +kernel
theorem dX8_refuse_20 : decode cX8_refuse 20 = .ok (.iaload, 1) := by decide +kernel
theorem dX8_refuse_21 : decode cX8_refuse 21 = .ok (.iconst 1, 1) := by decide +kernel
theorem dX8_refuse_22 : decode cX8_refuse 22 = .ok (.iadd, 1) := by decide +kernel
theorem dX8_refuse_23 : decode cX8_refuse 23 = .ok (.iastore, 1) := by decide +kernel
theorem dX8_refuse_24 : decode cX8_refuse 24 = .ok (.iload_n 1, 1) := by decide +kernel
theorem dX8_refuse_25 : decode cX8_refuse 25 = .ok (.ireturn, 1) := by decide +kernel
theorem dX8_isQuarter_0 : decode cX8_isQuarter 0 = .ok (.iload_n 0, 1) := by decide +kernel
theorem dX8_isQuarter_1 : decode cX8_isQuarter 1 = .ok (.ifCond .lt 12, 3) := by decide +kernel
theorem dX8_isQuarter_4 : decode cX8_isQuarter 4 = .ok (.iload_n 0, 1) := by decide +kernel
theorem dX8_isQuarter_5 : decode cX8_isQuarter 5 = .ok (.iconst 4, 1) := by decide +kernel
theorem dX8_isQuarter_6 : decode cX8_isQuarter 6 = .ok (.if_icmp .ge 7, 3) := by decide +kernel
theorem dX8_isQuarter_9 : decode cX8_isQuarter 9 = .ok (.iconst 1, 1) := by decide +kernel
theorem dX8_isQuarter_10 : decode cX8_isQuarter 10 = .ok (.goto 4, 3) := by decide +kernel
theorem dX8_isQuarter_13 : decode cX8_isQuarter 13 = .ok (.iconst 0, 1) := by decide +kernel
theorem dX8_isQuarter_14 : decode cX8_isQuarter 14 = .ok (.ireturn, 1) := by decide +kernel
theorem dX8_hasBit_0 : decode cX8_hasBit 0 = .ok (.iload_n 0, 1) := by decide +kernel
theorem dX8_hasBit_1 : decode cX8_hasBit 1 = .ok (.iload_n 1, 1) := by decide +kernel
theorem dX8_hasBit_2 : decode cX8_hasBit 2 = .ok (.ishr, 1) := by decide +kernel
theorem dX8_hasBit_3 : decode cX8_hasBit 3 = .ok (.iconst 1, 1) := by decide +kernel
theorem dX8_hasBit_4 : decode cX8_hasBit 4 = .ok (.iand, 1) := by decide +kernel
theorem dX8_hasBit_5 : decode cX8_hasBit 5 = .ok (.iconst 1, 1) := by decide +kernel
theorem dX8_hasBit_6 : decode cX8_hasBit 6 = .ok (.if_icmp .ne 7, 3) := by decide +kernel
theorem dX8_hasBit_9 : decode cX8_hasBit 9 = .ok (.iconst 1, 1) := by decide +kernel
theorem dX8_hasBit_10 : decode cX8_hasBit 10 = .ok (.goto 4, 3) := by decide +kernel
theorem dX8_hasBit_13 : decode cX8_hasBit 13 = .ok (.iconst 0, 1) := by decide +kernel
theorem dX8_hasBit_14 : decode cX8_hasBit 14 = .ok (.ireturn, 1) := by decide +kernel
theorem dX8_commonDivisor_0 : decode cX8_commonDivisor 0 = .ok (.iload_n 0, 1) := by decide +kernel
theorem dX8_commonDivisor_1 : decode cX8_commonDivisor 1 = .ok (.istore_n 2, 1) := by decide +kernel
theorem dX8_commonDivisor_2 : decode cX8_commonDivisor 2 = .ok (.iload_n 1, 1) := by decide +kernel
theorem dX8_commonDivisor_3 : decode cX8_commonDivisor 3 = .ok (.istore_n 3, 1) := by decide +kernel
theorem dX8_commonDivisor_4 : decode cX8_commonDivisor 4 = .ok (.iconst 0, 1) := by decide +kernel
theorem dX8_commonDivisor_5 : decode cX8_commonDivisor 5 = .ok (.istore 4, 2) := by decide +kernel
theorem dX8_commonDivisor_7 : decode cX8_commonDivisor 7 = .ok (.iload 4, 2) := by decide +kernel
theorem dX8_commonDivisor_9 : decode cX8_commonDivisor 9 = .ok (.bipush 64, 2) := by decide +kernel
theorem dX8_commonDivisor_11 : decode cX8_commonDivisor 11 = .ok (.if_icmp .ge 23, 3) := by decide +kernel
theorem dX8_commonDivisor_14 : decode cX8_commonDivisor 14 = .ok (.iload_n 3, 1) := by decide +kernel
theorem dX8_commonDivisor_15 : decode cX8_commonDivisor 15 = .ok (.ifCond .eq 19, 3) := by decide +kernel
theorem dX8_commonDivisor_18 : decode cX8_commonDivisor 18 = .ok (.iload_n 2, 1) := by decide +kernel
theorem dX8_commonDivisor_19 : decode cX8_commonDivisor 19 = .ok (.iload_n 3, 1) := by decide +kernel
theorem dX8_commonDivisor_20 : decode cX8_commonDivisor 20 = .ok (.irem, 1) := by decide +kernel
theorem dX8_commonDivisor_21 : decode cX8_commonDivisor 21 = .ok (.istore 5, 2) := by decide +kernel
theorem dX8_commonDivisor_23 : decode cX8_commonDivisor 23 = .ok (.iload_n 3, 1) := by decide +kernel
theorem dX8_commonDivisor_24 : decode cX8_commonDivisor 24 = .ok (.istore_n 2, 1) := by decide +kernel
theorem dX8_commonDivisor_25 : decode cX8_commonDivisor 25 = .ok (.iload 5, 2) := by decide +kernel
theorem dX8_commonDivisor_27 : decode cX8_commonDivisor 27 = .ok (.istore_n 3, 1) := by decide +kernel
theorem dX8_commonDivisor_28 : decode cX8_commonDivisor 28 = .ok (.iinc 4 1, 3) := by decide +kernel
theorem dX8_commonDivisor_31 : decode cX8_commonDivisor 31 = .ok (.goto (-24), 3) := by decide +kernel
theorem dX8_commonDivisor_34 : decode cX8_commonDivisor 34 = .ok (.iload_n 2, 1) := by decide +kernel
theorem dX8_commonDivisor_35 : decode cX8_commonDivisor 35 = .ok (.ireturn, 1) := by decide +kernel
theorem dX9_refuse_0 : decode cX9_refuse 0 = .ok (.aload_n 0, 1) := by decide +kernel
theorem dX9_refuse_1 : decode cX9_refuse 1 = .ok (.getfield 7, 3) := by decide +kernel
theorem dX9_refuse_4 : decode cX9_refuse 4 = .ok (.iload_n 1, 1) := by decide +kernel
theorem dX9_refuse_5 : decode cX9_refuse 5 = .ok (.ineg, 1) := by decide +kernel
theorem dX9_refuse_6 : decode cX9_refuse 6 = .ok (.dup2, 1) := by decide +kernel
theorem dX9_refuse_7 : decode cX9_refuse 7 = .ok (.iaload, 1) := by decide +kernel
theorem dX9_refuse_8 : decode cX9_refuse 8 = .ok (.iconst 1, 1) := by decide +kernel
theorem dX9_refuse_9 : decode cX9_refuse 9 = .ok (.iadd, 1) := by decide +kernel
theorem dX9_refuse_10 : decode cX9_refuse 10 = .ok (.iastore, 1) := by decide +kernel
theorem dX9_refuse_11 : decode cX9_refuse 11 = .ok (.iload_n 1, 1) := by decide +kernel
theorem dX9_refuse_12 : decode cX9_refuse 12 = .ok (.ireturn, 1) := by decide +kernel
theorem dX9_isIn_0 : decode cX9_isIn 0 = .ok (.iload_n 0, 1) := by decide +kernel
theorem dX9_isIn_1 : decode cX9_isIn 1 = .ok (.ifCond .lt 12, 3) := by decide +kernel
theorem dX9_isIn_4 : decode cX9_isIn 4 = .ok (.iload_n 0, 1) := by decide +kernel
theorem dX9_isIn_5 : decode cX9_isIn 5 = .ok (.iload_n 1, 1) := by decide +kernel
theorem dX9_isIn_6 : decode cX9_isIn 6 = .ok (.if_icmp .ge 7, 3) := by decide +kernel
theorem dX9_isIn_9 : decode cX9_isIn 9 = .ok (.iconst 1, 1) := by decide +kernel
theorem dX9_isIn_10 : decode cX9_isIn 10 = .ok (.goto 4, 3) := by decide +kernel
theorem dX9_isIn_13 : decode cX9_isIn 13 = .ok (.iconst 0, 1) := by decide +kernel
theorem dX9_isIn_14 : decode cX9_isIn 14 = .ok (.ireturn, 1) := by decide +kernel
theorem dX9_within_0 : decode cX9_within 0 = .ok (.iload_n 0, 1) := by decide +kernel
theorem dX9_within_1 : decode cX9_within 1 = .ok (.iload_n 1, 1) := by decide +kernel
theorem dX9_within_2 : decode cX9_within 2 = .ok (.if_icmp .ge 8, 3) := by decide +kernel
theorem dX9_within_5 : decode cX9_within 5 = .ok (.bipush (-4), 2) := by decide +kernel
theorem dX9_within_7 : decode cX9_within 7 = .ok (.goto 14, 3) := by decide +kernel
theorem dX9_within_10 : decode cX9_within 10 = .ok (.iload_n 0, 1) := by decide +kernel
theorem dX9_within_11 : decode cX9_within 11 = .ok (.iload_n 2, 1) := by decide +kernel
theorem dX9_within_12 : decode cX9_within 12 = .ok (.if_icmp .le 8, 3) := by decide +kernel
theorem dX9_within_15 : decode cX9_within 15 = .ok (.bipush (-6), 2) := by decide +kernel
theorem dX9_within_17 : decode cX9_within 17 = .ok (.goto 4, 3) := by decide +kernel
theorem dX9_within_20 : decode cX9_within 20 = .ok (.iconst 0, 1) := by decide +kernel
theorem dX9_within_21 : decode cX9_within 21 = .ok (.ireturn, 1) := by decide +kernel
theorem dX9_isSort_0 : decode cX9_isSort 0 = .ok (.iload_n 1, 1) := by decide +kernel
theorem dX9_isSort_1 : decode cX9_isSort 1 = .ok (.aload_n 0, 1) := by decide +kernel
theorem dX9_isSort_2 : decode cX9_isSort 2 = .ok (.getfield 13, 3) := by decide +kernel
theorem dX9_isSort_5 : decode cX9_isSort 5 = .ok (.iconst 0, 1) := by decide +kernel
theorem dX9_isSort_6 : decode cX9_isSort 6 = .ok (.iaload, 1) := by decide +kernel
theorem dX9_isSort_7 : decode cX9_isSort 7 = .ok (.invokestatic 82, 3) := by decide +kernel
theorem dX9_isSort_10 : decode cX9_isSort 10 = .ok (.ireturn, 1) := by decide +kernel
theorem dX9_isLane_0 : decode cX9_isLane 0 = .ok (.iload_n 1, 1) := by decide +kernel
theorem dX9_isLane_1 : decode cX9_isLane 1 = .ok (.aload_n 0, 1) := by decide +kernel
theorem dX9_isLane_2 : decode cX9_isLane 2 = .ok (.getfield 13, 3) := by decide +kernel
theorem dX9_isLane_5 : decode cX9_isLane 5 = .ok (.iconst 1, 1) := by decide +kernel
theorem dX9_isLane_6 : decode cX9_isLane 6 = .ok (.iaload, 1) := by decide +kernel
theorem dX9_isLane_7 : decode cX9_isLane 7 = .ok (.invokestatic 82, 3) := by decide +kernel
theorem dX9_isLane_10 : decode cX9_isLane 10 = .ok (.ireturn, 1) := by decide +kernel
theorem dX9_secondsOf_0 : decode cX9_secondsOf 0 = .ok (.aload_n 0, 1) := by decide +kernel
theorem dX9_secondsOf_1 : decode cX9_secondsOf 1 = .ok (.getfield 13, 3) := by decide +kernel
theorem dX9_secondsOf_4 : decode cX9_secondsOf 4 = .ok (.bipush 10, 2) := by decide +kernel
theorem dX9_secondsOf_6 : decode cX9_secondsOf 6 = .ok (.bipush 6, 2) := by decide +kernel
theorem dX9_secondsOf_8 : decode cX9_secondsOf 8 = .ok (.iload_n 1, 1) := by decide +kernel
theorem dX9_secondsOf_9 : decode cX9_secondsOf 9 = .ok (.imul, 1) := by decide +kernel
theorem dX9_secondsOf_10 : decode cX9_secondsOf 10 = .ok (.iadd, 1) := by decide +kernel
theorem dX9_secondsOf_11 : decode cX9_secondsOf 11 = .ok (.iaload, 1) := by decide +kernel
theorem dX9_secondsOf_12 : decode cX9_secondsOf 12 = .ok (.ireturn, 1) := by decide +kernel
theorem dX9_worthOf_0 : decode cX9_worthOf 0 = .ok (.aload_n 0, 1) := by decide +kernel
theorem dX9_worthOf_1 : decode cX9_worthOf 1 = .ok (.getfield 13, 3) := by decide +kernel
theorem dX9_worthOf_4 : decode cX9_worthOf 4 = .ok (.bipush 10, 2) := by decide +kernel
theorem dX9_worthOf_6 : decode cX9_worthOf 6 = .ok (.bipush 6, 2) := by decide +kernel
theorem dX9_worthOf_8 : decode cX9_worthOf 8 = .ok (.iload_n 1, 1) := by decide +kernel
theorem dX9_worthOf_9 : decode cX9_worthOf 9 = .ok (.imul, 1) := by decide +kernel
theorem dX9_worthOf_10 : decode cX9_worthOf 10 = .ok (.iadd, 1) := by decide +kernel
theorem dX9_worthOf_11 : decode cX9_worthOf 11 = .ok (.iconst 1, 1) := by decide +kernel
theorem dX9_worthOf_12 : decode cX9_worthOf 12 = .ok (.iadd, 1) := by decide +kernel
theorem dX9_worthOf_13 : decode cX9_worthOf 13 = .ok (.iaload, 1) := by decide +kernel
theorem dX9_worthOf_14 : decode cX9_worthOf 14 = .ok (.ireturn, 1) := by decide +kernel
theorem dX9_comeIn_0 : decode cX9_comeIn 0 = .ok (.aload_n 0, 1) := by decide +kernel
theorem dX9_comeIn_1 : decode cX9_comeIn 1 = .ok (.getfield 13, 3) := by decide +kernel
theorem dX9_comeIn_4 : decode cX9_comeIn 4 = .ok (.bipush 10, 2) := by decide +kernel
theorem dX9_comeIn_6 : decode cX9_comeIn 6 = .ok (.bipush 6, 2) := by decide +kernel
theorem dX9_comeIn_8 : decode cX9_comeIn 8 = .ok (.iload_n 2, 1) := by decide +kernel
theorem dX9_comeIn_9 : decode cX9_comeIn 9 = .ok (.imul, 1) := by decide +kernel
theorem dX9_comeIn_10 : decode cX9_comeIn 10 = .ok (.iadd, 1) := by decide +kernel
theorem dX9_comeIn_11 : decode cX9_comeIn 11 = .ok (.iconst 2, 1) := by decide +kernel
theorem dX9_comeIn_12 : decode cX9_comeIn 12 = .ok (.iadd, 1) := by decide +kernel
theorem dX9_comeIn_13 : decode cX9_comeIn 13 = .ok (.iload_n 1, 1) := by decide +kernel
theorem dX9_comeIn_14 : decode cX9_comeIn 14 = .ok (.iadd, 1) := by decide +kernel
theorem dX9_comeIn_15 : decode cX9_comeIn 15 = .ok (.iaload, 1) := by decide +kernel
theorem dX9_comeIn_16 : decode cX9_comeIn 16 = .ok (.ireturn, 1) := by decide +kernel
theorem dX9_becomes_0 : decode cX9_becomes 0 = .ok (.aload_n 0, 1) := by decide +kernel
theorem dX9_becomes_1 : decode cX9_becomes 1 = .ok (.getfield 13, 3) := by decide +kernel
theorem dX9_becomes_4 : decode cX9_becomes 4 = .ok (.iload_n 1, 1) := by decide +kernel
theorem dX9_becomes_5 : decode cX9_becomes 5 = .ok (.iaload, 1) := by decide +kernel
theorem dX9_becomes_6 : decode cX9_becomes 6 = .ok (.istore_n 3, 1) := by decide +kernel
theorem dX9_becomes_7 : decode cX9_becomes 7 = .ok (.aload_n 0, 1) := by decide +kernel
theorem dX9_becomes_8 : decode cX9_becomes 8 = .ok (.getfield 13, 3) := by decide +kernel
theorem dX9_becomes_11 : decode cX9_becomes 11 = .ok (.iload_n 1, 1) := by decide +kernel
theorem dX9_becomes_12 : decode cX9_becomes 12 = .ok (.iload_n 2, 1) := by decide +kernel
theorem dX9_becomes_13 : decode cX9_becomes 13 = .ok (.iastore, 1) := by decide +kernel
theorem dX9_becomes_14 : decode cX9_becomes 14 = .ok (.iload_n 3, 1) := by decide +kernel
theorem dX9_becomes_15 : decode cX9_becomes 15 = .ok (.ireturn, 1) := by decide +kernel
theorem dX9_feed_0 : decode cX9_feed 0 = .ok (.iload_n 1, 1) := by decide +kernel
theorem dX9_feed_1 : decode cX9_feed 1 = .ok (.iconst 1, 1) := by decide +kernel
theorem dX9_feed_2 : decode cX9_feed 2 = .ok (.if_icmp .ge 10, 3) := by decide +kernel
theorem dX9_feed_5 : decode cX9_feed 5 = .ok (.aload_n 0, 1) := by decide +kernel
theorem dX9_feed_6 : decode cX9_feed 6 = .ok (.bipush (-4), 2) := by decide +kernel
theorem dX9_feed_8 : decode cX9_feed 8 = .ok (.invokevirtual 86, 3) := by decide +kernel
theorem dX9_feed_11 : decode cX9_feed 11 = .ok (.ireturn, 1) := by decide +kernel
theorem dX9_feed_12 : decode cX9_feed 12 = .ok (.iload_n 1, 1) := by decide +kernel
theorem dX9_feed_13 : decode cX9_feed 13 = .ok (.bipush 8, 2) := by decide +kernel
theorem dX9_feed_15 : decode cX9_feed 15 = .ok (.if_icmp .gt 14, 3) := by decide +kernel
theorem dX9_feed_18 : decode cX9_feed 18 = .ok (.aload_n 0, 1) := by decide +kernel
theorem dX9_feed_19 : decode cX9_feed 19 = .ok (.getfield 90, 3) := by decide +kernel
theorem dX9_feed_22 : decode cX9_feed 22 = .ok (.iload_n 1, 1) := by decide +kernel
theorem dX9_feed_23 : decode cX9_feed 23 = .ok (.iadd, 1) := by decide +kernel
theorem dX9_feed_24 : decode cX9_feed 24 = .ok (.bipush 64, 2) := by decide +kernel
theorem dX9_feed_26 : decode cX9_feed 26 = .ok (.if_icmp .le 10, 3) := by decide +kernel
theorem dX9_feed_29 : decode cX9_feed 29 = .ok (.aload_n 0, 1) := by decide +kernel
theorem dX9_feed_30 : decode cX9_feed 30 = .ok (.bipush (-6), 2) := by decide +kernel
theorem dX9_feed_32 : decode cX9_feed 32 = .ok (.invokevirtual 86, 3) := by decide +kernel
theorem dX9_feed_35 : decode cX9_feed 35 = .ok (.ireturn, 1) := by decide +kernel
theorem dX9_feed_36 : decode cX9_feed 36 = .ok (.iconst 0, 1) := by decide +kernel
theorem dX9_feed_37 : decode cX9_feed 37 = .ok (.istore 4, 2) := by decide +kernel
theorem dX9_feed_39 : decode cX9_feed 39 = .ok (.iload 4, 2) := by decide +kernel
theorem dX9_feed_41 : decode cX9_feed 41 = .ok (.iload_n 1, 1) := by decide +kernel
theorem dX9_feed_42 : decode cX9_feed 42 = .ok (.if_icmp .ge 40, 3) := by decide +kernel
theorem dX9_feed_45 : decode cX9_feed 45 = .ok (.aload_n 0, 1) := by decide +kernel
theorem dX9_feed_46 : decode cX9_feed 46 = .ok (.getfield 25, 3) := by decide +kernel
theorem dX9_feed_49 : decode cX9_feed 49 = .ok (.aload_n 0, 1) := by decide +kernel
theorem dX9_feed_50 : decode cX9_feed 50 = .ok (.getfield 90, 3) := by decide +kernel
theorem dX9_feed_53 : decode cX9_feed 53 = .ok (.lload_n 2, 1) := by decide +kernel
theorem dX9_feed_54 : decode cX9_feed 54 = .ok (.bipush 8, 2) := by decide +kernel
theorem dX9_feed_56 : decode cX9_feed 56 = .ok (.iload 4, 2) := by decide +kernel
theorem dX9_feed_58 : decode cX9_feed 58 = .ok (.imul, 1) := by decide +kernel
theorem dX9_feed_59 : decode cX9_feed 59 = .ok (.lshr, 1) := by decide +kernel
theorem dX9_feed_60 : decode cX9_feed 60 = .ok (.ldc2_w 94, 3) := by decide +kernel
theorem dX9_feed_63 : decode cX9_feed 63 = .ok (.land, 1) := by decide +kernel
theorem dX9_feed_64 : decode cX9_feed 64 = .ok (.l2i, 1) := by decide +kernel
theorem dX9_feed_65 : decode cX9_feed 65 = .ok (.iastore, 1) := by decide +kernel
theorem dX9_feed_66 : decode cX9_feed 66 = .ok (.aload_n 0, 1) := by decide +kernel
theorem dX9_feed_67 : decode cX9_feed 67 = .ok (.dup, 1) := by decide +kernel
theorem dX9_feed_68 : decode cX9_feed 68 = .ok (.getfield 90, 3) := by decide +kernel
theorem dX9_feed_71 : decode cX9_feed 71 = .ok (.iconst 1, 1) := by decide +kernel
theorem dX9_feed_72 : decode cX9_feed 72 = .ok (.iadd, 1) := by decide +kernel
theorem dX9_feed_73 : decode cX9_feed 73 = .ok (.putfield 90, 3) := by decide +kernel
theorem dX9_feed_76 : decode cX9_feed 76 = .ok (.iinc 4 1, 3) := by decide +kernel
theorem dX9_feed_79 : decode cX9_feed 79 = .ok (.goto (-40), 3) := by decide +kernel
theorem dX9_feed_82 : decode cX9_feed 82 = .ok (.aload_n 0, 1) := by decide +kernel
theorem dX9_feed_83 : decode cX9_feed 83 = .ok (.getfield 90, 3) := by decide +kernel
theorem dX9_feed_86 : decode cX9_feed 86 = .ok (.ireturn, 1) := by decide +kernel
theorem dX9_sign_0 : decode cX9_sign 0 = .ok (.aload_n 0, 1) := by decide +kernel
theorem dX9_sign_1 : decode cX9_sign 1 = .ok (.getfield 96, 3) := by decide +kernel
theorem dX9_sign_4 : decode cX9_sign 4 = .ok (.aload_n 0, 1) := by decide +kernel
theorem dX9_sign_5 : decode cX9_sign 5 = .ok (.getfield 90, 3) := by decide +kernel
theorem dX9_sign_8 : decode cX9_sign 8 = .ok (.if_icmp .lt 7, 3) := by decide +kernel
theorem dX9_sign_11 : decode cX9_sign 11 = .ok (.iconst (-1), 1) := by decide +kernel
theorem dX9_sign_12 : decode cX9_sign 12 = .ok (.goto 12, 3) := by decide +kernel
theorem dX9_sign_15 : decode cX9_sign 15 = .ok (.aload_n 0, 1) := by decide +kernel
theorem dX9_sign_16 : decode cX9_sign 16 = .ok (.getfield 25, 3) := by decide +kernel
theorem dX9_sign_19 : decode cX9_sign 19 = .ok (.aload_n 0, 1) := by decide +kernel
theorem dX9_sign_20 : decode cX9_sign 20 = .ok (.getfield 96, 3) := by decide +kernel
theorem dX9_sign_23 : decode cX9_sign 23 = .ok (.iaload, 1) := by decide +kernel
theorem dX9_sign_24 : decode cX9_sign 24 = .ok (.ireturn, 1) := by decide +kernel
theorem dX9_isDigit_0 : decode cX9_isDigit 0 = .ok (.aload_n 0, 1) := by decide +kernel
theorem dX9_isDigit_1 : decode cX9_isDigit 1 = .ok (.invokevirtual 99, 3) := by decide +kernel
theorem dX9_isDigit_4 : decode cX9_isDigit 4 = .ok (.bipush 48, 2) := by decide +kernel
theorem dX9_isDigit_6 : decode cX9_isDigit 6 = .ok (.if_icmp .lt 16, 3) := by decide +kernel
theorem dX9_isDigit_9 : decode cX9_isDigit 9 = .ok (.aload_n 0, 1) := by decide +kernel
theorem dX9_isDigit_10 : decode cX9_isDigit 10 = .ok (.invokevirtual 99, 3) := by decide +kernel
theorem dX9_isDigit_13 : decode cX9_isDigit 13 = .ok (.bipush 57, 2) := by decide +kernel
theorem dX9_isDigit_15 : decode cX9_isDigit 15 = .ok (.if_icmp .gt 7, 3) := by decide +kernel
theorem dX9_isDigit_18 : decode cX9_isDigit 18 = .ok (.iconst 1, 1) := by decide +kernel
theorem dX9_isDigit_19 : decode cX9_isDigit 19 = .ok (.goto 4, 3) := by decide +kernel
theorem dX9_isDigit_22 : decode cX9_isDigit 22 = .ok (.iconst 0, 1) := by decide +kernel
theorem dX9_isDigit_23 : decode cX9_isDigit 23 = .ok (.ireturn, 1) := by decide +kernel
theorem dX9_takes_0 : decode cX9_takes 0 = .ok (.aload_n 0, 1) := by decide +kernel
theorem dX9_takes_1 : decode cX9_takes 1 = .ok (.invokevirtual 99, 3) := by decide +kernel
theorem dX9_takes_4 : decode cX9_takes 4 = .ok (.iload_n 1, 1) := by decide +kernel
theorem dX9_takes_5 : decode cX9_takes 5 = .ok (.if_icmp .eq 5, 3) := by decide +kernel
theorem dX9_takes_8 : decode cX9_takes 8 = .ok (.iconst 0, 1) := by decide +kernel
theorem dX9_takes_9 : decode cX9_takes 9 = .ok (.ireturn, 1) := by decide +kernel
theorem dX9_takes_10 : decode cX9_takes 10 = .ok (.aload_n 0, 1) := by decide +kernel
theorem dX9_takes_11 : decode cX9_takes 11 = .ok (.dup, 1) := by decide +kernel
theorem dX9_takes_12 : decode cX9_takes 12 = .ok (.getfield 96, 3) := by decide +kernel
theorem dX9_takes_15 : decode cX9_takes 15 = .ok (.iconst 1, 1) := by decide +kernel
theorem dX9_takes_16 : decode cX9_takes 16 = .ok (.iadd, 1) := by decide +kernel
theorem dX9_takes_17 : decode cX9_takes 17 = .ok (.putfield 96, 3) := by decide +kernel
theorem dX9_takes_20 : decode cX9_takes 20 = .ok (.iconst 1, 1) := by decide +kernel
theorem dX9_takes_21 : decode cX9_takes 21 = .ok (.ireturn, 1) := by decide +kernel
theorem dX9_readsNumber_0 : decode cX9_readsNumber 0 = .ok (.aload_n 0, 1) := by decide +kernel
theorem dX9_readsNumber_1 : decode cX9_readsNumber 1 = .ok (.invokevirtual 103, 3) := by decide +kernel
theorem dX9_readsNumber_4 : decode cX9_readsNumber 4 = .ok (.ifCond .ne 5, 3) := by decide +kernel
theorem dX9_readsNumber_7 : decode cX9_readsNumber 7 = .ok (.iconst 0, 1) := by decide +kernel
theorem dX9_readsNumber_8 : decode cX9_readsNumber 8 = .ok (.ireturn, 1) := by decide +kernel
theorem dX9_readsNumber_9 : decode cX9_readsNumber 9 = .ok (.aload_n 0, 1) := by decide +kernel
theorem dX9_readsNumber_10 : decode cX9_readsNumber 10 = .ok (.getfield 28, 3) := by decide +kernel
theorem dX9_readsNumber_13 : decode cX9_readsNumber 13 = .ok (.iload_n 1, 1) := by decide +kernel
theorem dX9_readsNumber_14 : decode cX9_readsNumber 14 = .ok (.iconst 0, 1) := by decide +kernel
theorem dX9_readsNumber_15 : decode cX9_readsNumber 15 = .ok (.iastore, 1) := by decide +kernel
theorem dX9_readsNumber_16 : decode cX9_readsNumber 16 = .ok (.iconst 0, 1) := by decide +kernel
theorem dX9_readsNumber_17 : decode cX9_readsNumber 17 = .ok (.istore_n 3, 1) := by decide +kernel
theorem dX9_readsNumber_18 : decode cX9_readsNumber 18 = .ok (.iload_n 3, 1) := by decide +kernel
theorem dX9_readsNumber_19 : decode cX9_readsNumber 19 = .ok (.iload_n 2, 1) := by decide +kernel
theorem dX9_readsNumber_20 : decode cX9_readsNumber 20 = .ok (.if_icmp .ge 49, 3) := by decide +kernel
theorem dX9_readsNumber_23 : decode cX9_readsNumber 23 = .ok (.aload_n 0, 1) := by decide +kernel
theorem dX9_readsNumber_24 : decode cX9_readsNumber 24 = .ok (.invokevirtual 103, 3) := by decide +kernel
theorem dX9_readsNumber_27 : decode cX9_readsNumber 27 = .ok (.ifCond .eq 42, 3) := by decide +kernel
theorem dX9_readsNumber_30 : decode cX9_readsNumber 30 = .ok (.aload_n 0, 1) := by decide +kernel
theorem dX9_readsNumber_31 : decode cX9_readsNumber 31 = .ok (.getfield 28, 3) := by decide +kernel
theorem dX9_readsNumber_34 : decode cX9_readsNumber 34 = .ok (.iload_n 1, 1) := by decide +kernel
theorem dX9_readsNumber_35 : decode cX9_readsNumber 35 = .ok (.bipush 10, 2) := by decide +kernel
theorem dX9_readsNumber_37 : decode cX9_readsNumber 37 = .ok (.aload_n 0, 1) := by decide +kernel
theorem dX9_readsNumber_38 : decode cX9_readsNumber 38 = .ok (.getfield 28, 3) := by decide +kernel
theorem dX9_readsNumber_41 : decode cX9_readsNumber 41 = .ok (.iload_n 1, 1) := by decide +kernel
theorem dX9_readsNumber_42 : decode cX9_readsNumber 42 = .ok (.iaload, 1) := by decide +kernel
theorem dX9_readsNumber_43 : decode cX9_readsNumber 43 = .ok (.imul, 1) := by decide +kernel
theorem dX9_readsNumber_44 : decode cX9_readsNumber 44 = .ok (.aload_n 0, 1) := by decide +kernel
theorem dX9_readsNumber_45 : decode cX9_readsNumber 45 = .ok (.invokevirtual 99, 3) := by decide +kernel
theorem dX9_readsNumber_48 : decode cX9_readsNumber 48 = .ok (.iadd, 1) := by decide +kernel
theorem dX9_readsNumber_49 : decode cX9_readsNumber 49 = .ok (.bipush 48, 2) := by decide +kernel
theorem dX9_readsNumber_51 : decode cX9_readsNumber 51 = .ok (.isub, 1) := by decide +kernel
theorem dX9_readsNumber_52 : decode cX9_readsNumber 52 = .ok (.iastore, 1) := by decide +kernel
theorem dX9_readsNumber_53 : decode cX9_readsNumber 53 = .ok (.aload_n 0, 1) := by decide +kernel
theorem dX9_readsNumber_54 : decode cX9_readsNumber 54 = .ok (.dup, 1) := by decide +kernel
theorem dX9_readsNumber_55 : decode cX9_readsNumber 55 = .ok (.getfield 96, 3) := by decide +kernel
theorem dX9_readsNumber_58 : decode cX9_readsNumber 58 = .ok (.iconst 1, 1) := by decide +kernel
theorem dX9_readsNumber_59 : decode cX9_readsNumber 59 = .ok (.iadd, 1) := by decide +kernel
theorem dX9_readsNumber_60 : decode cX9_readsNumber 60 = .ok (.putfield 96, 3) := by decide +kernel
theorem dX9_readsNumber_63 : decode cX9_readsNumber 63 = .ok (.iinc 3 1, 3) := by decide +kernel
theorem dX9_readsNumber_66 : decode cX9_readsNumber 66 = .ok (.goto (-48), 3) := by decide +kernel
theorem dX9_readsNumber_69 : decode cX9_readsNumber 69 = .ok (.iconst 1, 1) := by decide +kernel
theorem dX9_readsNumber_70 : decode cX9_readsNumber 70 = .ok (.ireturn, 1) := by decide +kernel
theorem dX9_readsStatement_0 : decode cX9_readsStatement 0 = .ok (.aload_n 0, 1) := by decide +kernel
theorem dX9_readsStatement_1 : decode cX9_readsStatement 1 = .ok (.invokevirtual 99, 3) := by decide +kernel
theorem dX9_readsStatement_4 : decode cX9_readsStatement 4 = .ok (.istore_n 1, 1) := by decide +kernel
theorem dX9_readsStatement_5 : decode cX9_readsStatement 5 = .ok (.iload_n 1, 1) := by decide +kernel
theorem dX9_readsStatement_6 : decode cX9_readsStatement 6 = .ok (.bipush 115, 2) := by decide +kernel
theorem dX9_readsStatement_8 : decode cX9_readsStatement 8 = .ok (.if_icmp .eq 23, 3) := by decide +kernel
theorem dX9_readsStatement_11 : decode cX9_readsStatement 11 = .ok (.iload_n 1, 1) := by decide +kernel
theorem dX9_readsStatement_12 : decode cX9_readsStatement 12 = .ok (.bipush 108, 2) := by decide +kernel
theorem dX9_readsStatement_14 : decode cX9_readsStatement 14 = .ok (.if_icmp .eq 17, 3) := by decide +kernel
theorem dX9_readsStatement_17 : decode cX9_readsStatement 17 = .ok (.iload_n 1, 1) := by decide +kernel
theorem dX9_readsStatement_18 : decode cX9_readsStatement 18 = .ok (.bipush 97, 2) := by decide +kernel
theorem dX9_readsStatement_20 : decode cX9_readsStatement 20 = .ok (.if_icmp .eq 11, 3) := by decide +kernel
theorem dX9_readsStatement_23 : decode cX9_readsStatement 23 = .ok (.iload_n 1, 1) := by decide +kernel
theorem dX9_readsStatement_24 : decode cX9_readsStatement 24 = .ok (.bipush 113, 2) := by decide +kernel
theorem dX9_readsStatement_26 : decode cX9_readsStatement 26 = .ok (.if_icmp .eq 5, 3) := by decide +kernel
theorem dX9_readsStatement_29 : decode cX9_readsStatement 29 = .ok (.iconst 0, 1) := by decide +kernel
theorem dX9_readsStatement_30 : decode cX9_readsStatement 30 = .ok (.ireturn, 1) := by decide +kernel
theorem dX9_readsStatement_31 : decode cX9_readsStatement 31 = .ok (.aload_n 0, 1) := by decide +kernel
theorem dX9_readsStatement_32 : decode cX9_readsStatement 32 = .ok (.dup, 1) := by decide +kernel
theorem dX9_readsStatement_33 : decode cX9_readsStatement 33 = .ok (.getfield 96, 3) := by decide +kernel
theorem dX9_readsStatement_36 : decode cX9_readsStatement 36 = .ok (.iconst 1, 1) := by decide +kernel
theorem dX9_readsStatement_37 : decode cX9_readsStatement 37 = .ok (.iadd, 1) := by decide +kernel
theorem dX9_readsStatement_38 : decode cX9_readsStatement 38 = .ok (.putfield 96, 3) := by decide +kernel
theorem dX9_readsStatement_41 : decode cX9_readsStatement 41 = .ok (.iload_n 1, 1) := by decide +kernel
theorem dX9_readsStatement_42 : decode cX9_readsStatement 42 = .ok (.bipush 108, 2) := by decide +kernel
theorem dX9_readsStatement_44 : decode cX9_readsStatement 44 = .ok (.if_icmp .ne 27, 3) := by decide +kernel
theorem dX9_readsStatement_47 : decode cX9_readsStatement 47 = .ok (.aload_n 0, 1) := by decide +kernel
theorem dX9_readsStatement_48 : decode cX9_readsStatement 48 = .ok (.iconst 0, 1) := by decide +kernel
theorem dX9_readsStatement_49 : decode cX9_readsStatement 49 = .ok (.iconst 2, 1) := by decide +kernel
theorem dX9_readsStatement_50 : decode cX9_readsStatement 50 = .ok (.invokevirtual 107, 3) := by decide +kernel
theorem dX9_readsStatement_53 : decode cX9_readsStatement 53 = .ok (.ifCond .eq 16, 3) := by decide +kernel
theorem dX9_readsStatement_56 : decode cX9_readsStatement 56 = .ok (.aload_n 0, 1) := by decide +kernel
theorem dX9_readsStatement_57 : decode cX9_readsStatement 57 = .ok (.bipush 59, 2) := by decide +kernel
theorem dX9_readsStatement_59 : decode cX9_readsStatement 59 = .ok (.invokevirtual 110, 3) := by decide +kernel
theorem dX9_readsStatement_62 : decode cX9_readsStatement 62 = .ok (.ifCond .eq 7, 3) := by decide +kernel
theorem dX9_readsStatement_65 : decode cX9_readsStatement 65 = .ok (.iconst 1, 1) := by decide +kernel
theorem dX9_readsStatement_66 : decode cX9_readsStatement 66 = .ok (.goto 4, 3) := by decide +kernel
theorem dX9_readsStatement_69 : decode cX9_readsStatement 69 = .ok (.iconst 0, 1) := by decide +kernel
theorem dX9_readsStatement_70 : decode cX9_readsStatement 70 = .ok (.ireturn, 1) := by decide +kernel
theorem dX9_readsStatement_71 : decode cX9_readsStatement 71 = .ok (.iload_n 1, 1) := by decide +kernel
theorem dX9_readsStatement_72 : decode cX9_readsStatement 72 = .ok (.bipush 115, 2) := by decide +kernel
theorem dX9_readsStatement_74 : decode cX9_readsStatement 74 = .ok (.if_icmp .ne 45, 3) := by decide +kernel
theorem dX9_readsStatement_77 : decode cX9_readsStatement 77 = .ok (.aload_n 0, 1) := by decide +kernel
theorem dX9_readsStatement_78 : decode cX9_readsStatement 78 = .ok (.iconst 0, 1) := by decide +kernel
theorem dX9_readsStatement_79 : decode cX9_readsStatement 79 = .ok (.iconst 2, 1) := by decide +kernel
theorem dX9_readsStatement_80 : decode cX9_readsStatement 80 = .ok (.invokevirtual 107, 3) := by decide +kernel
theorem dX9_readsStatement_83 : decode cX9_readsStatement 83 = .ok (.ifCond .eq 34, 3) := by decide +kernel
theorem dX9_readsStatement_86 : decode cX9_readsStatement 86 = .ok (.aload_n 0, 1) := by decide +kernel
theorem dX9_readsStatement_87 : decode cX9_readsStatement 87 = .ok (.bipush 44, 2) := by decide +kernel
theorem dX9_readsStatement_89 : decode cX9_readsStatement 89 = .ok (.invokevirtual 110, 3) := by decide +kernel
theorem dX9_readsStatement_92 : decode cX9_readsStatement 92 = .ok (.ifCond .eq 25, 3) := by decide +kernel
theorem dX9_readsStatement_95 : decode cX9_readsStatement 95 = .ok (.aload_n 0, 1) := by decide +kernel
theorem dX9_readsStatement_96 : decode cX9_readsStatement 96 = .ok (.iconst 1, 1) := by decide +kernel
theorem dX9_readsStatement_97 : decode cX9_readsStatement 97 = .ok (.iconst 2, 1) := by decide +kernel
theorem dX9_readsStatement_98 : decode cX9_readsStatement 98 = .ok (.invokevirtual 107, 3) := by decide +kernel
theorem dX9_readsStatement_101 : decode cX9_readsStatement 101 = .ok (.ifCond .eq 16, 3) := by decide +kernel
theorem dX9_readsStatement_104 : decode cX9_readsStatement 104 = .ok (.aload_n 0, 1) := by decide +kernel
theorem dX9_readsStatement_105 : decode cX9_readsStatement 105 = .ok (.bipush 59, 2) := by decide +kernel
theorem dX9_readsStatement_107 : decode cX9_readsStatement 107 = .ok (.invokevirtual 110, 3) := by decide +kernel
theorem dX9_readsStatement_110 : decode cX9_readsStatement 110 = .ok (.ifCond .eq 7, 3) := by decide +kernel
theorem dX9_readsStatement_113 : decode cX9_readsStatement 113 = .ok (.iconst 1, 1) := by decide +kernel
theorem dX9_readsStatement_114 : decode cX9_readsStatement 114 = .ok (.goto 4, 3) := by decide +kernel
theorem dX9_readsStatement_117 : decode cX9_readsStatement 117 = .ok (.iconst 0, 1) := by decide +kernel
theorem dX9_readsStatement_118 : decode cX9_readsStatement 118 = .ok (.ireturn, 1) := by decide +kernel
theorem dX9_readsStatement_119 : decode cX9_readsStatement 119 = .ok (.aload_n 0, 1) := by decide +kernel
theorem dX9_readsStatement_120 : decode cX9_readsStatement 120 = .ok (.iconst 0, 1) := by decide +kernel
theorem dX9_readsStatement_121 : decode cX9_readsStatement 121 = .ok (.iconst 1, 1) := by decide +kernel
theorem dX9_readsStatement_122 : decode cX9_readsStatement 122 = .ok (.invokevirtual 107, 3) := by decide +kernel
theorem dX9_readsStatement_125 : decode cX9_readsStatement 125 = .ok (.ifCond .eq 43, 3) := by decide +kernel
theorem dX9_readsStatement_128 : decode cX9_readsStatement 128 = .ok (.aload_n 0, 1) := by decide +kernel
theorem dX9_readsStatement_129 : decode cX9_readsStatement 129 = .ok (.iconst 1, 1) := by decide +kernel
theorem dX9_readsStatement_130 : decode cX9_readsStatement 130 = .ok (.iconst 1, 1) := by decide +kernel
theorem dX9_readsStatement_131 : decode cX9_readsStatement 131 = .ok (.invokevirtual 107, 3) := by decide +kernel
theorem dX9_readsStatement_134 : decode cX9_readsStatement 134 = .ok (.ifCond .eq 34, 3) := by decide +kernel
theorem dX9_readsStatement_137 : decode cX9_readsStatement 137 = .ok (.aload_n 0, 1) := by decide +kernel
theorem dX9_readsStatement_138 : decode cX9_readsStatement 138 = .ok (.bipush 44, 2) := by decide +kernel
theorem dX9_readsStatement_140 : decode cX9_readsStatement 140 = .ok (.invokevirtual 110, 3) := by decide +kernel
theorem dX9_readsStatement_143 : decode cX9_readsStatement 143 = .ok (.ifCond .eq 25, 3) := by decide +kernel
theorem dX9_readsStatement_146 : decode cX9_readsStatement 146 = .ok (.aload_n 0, 1) := by decide +kernel
theorem dX9_readsStatement_147 : decode cX9_readsStatement 147 = .ok (.iconst 2, 1) := by decide +kernel
theorem dX9_readsStatement_148 : decode cX9_readsStatement 148 = .ok (.iconst 2, 1) := by decide +kernel
theorem dX9_readsStatement_149 : decode cX9_readsStatement 149 = .ok (.invokevirtual 107, 3) := by decide +kernel
theorem dX9_readsStatement_152 : decode cX9_readsStatement 152 = .ok (.ifCond .eq 16, 3) := by decide +kernel
theorem dX9_readsStatement_155 : decode cX9_readsStatement 155 = .ok (.aload_n 0, 1) := by decide +kernel
theorem dX9_readsStatement_156 : decode cX9_readsStatement 156 = .ok (.bipush 59, 2) := by decide +kernel
theorem dX9_readsStatement_158 : decode cX9_readsStatement 158 = .ok (.invokevirtual 110, 3) := by decide +kernel
theorem dX9_readsStatement_161 : decode cX9_readsStatement 161 = .ok (.ifCond .eq 7, 3) := by decide +kernel
theorem dX9_readsStatement_164 : decode cX9_readsStatement 164 = .ok (.iconst 1, 1) := by decide +kernel
theorem dX9_readsStatement_165 : decode cX9_readsStatement 165 = .ok (.goto 4, 3) := by decide +kernel
theorem dX9_readsStatement_168 : decode cX9_readsStatement 168 = .ok (.iconst 0, 1) := by decide +kernel
theorem dX9_readsStatement_169 : decode cX9_readsStatement 169 = .ok (.ireturn, 1) := by decide +kernel
theorem dX9_comes_0 : decode cX9_comes 0 = .ok (.aload_n 0, 1) := by decide +kernel
theorem dX9_comes_1 : decode cX9_comes 1 = .ok (.getfield 28, 3) := by decide +kernel
theorem dX9_comes_4 : decode cX9_comes 4 = .ok (.iconst 0, 1) := by decide +kernel
theorem dX9_comes_5 : decode cX9_comes 5 = .ok (.iaload, 1) := by decide +kernel
theorem dX9_comes_6 : decode cX9_comes 6 = .ok (.istore_n 2, 1) := by decide +kernel
theorem dX9_comes_7 : decode cX9_comes 7 = .ok (.aload_n 0, 1) := by decide +kernel
theorem dX9_comes_8 : decode cX9_comes 8 = .ok (.getfield 28, 3) := by decide +kernel
theorem dX9_comes_11 : decode cX9_comes 11 = .ok (.iconst 1, 1) := by decide +kernel
theorem dX9_comes_12 : decode cX9_comes 12 = .ok (.iaload, 1) := by decide +kernel
theorem dX9_comes_13 : decode cX9_comes 13 = .ok (.istore_n 3, 1) := by decide +kernel
theorem dX9_comes_14 : decode cX9_comes 14 = .ok (.iload_n 1, 1) := by decide +kernel
theorem dX9_comes_15 : decode cX9_comes 15 = .ok (.lookupswitch 265 #[(97, 213), (108, 133), (115, 33)], 33) := by decide +kernel
theorem dX9_comes_48 : decode cX9_comes 48 = .ok (.iload_n 2, 1) := by decide +kernel
theorem dX9_comes_49 : decode cX9_comes 49 = .ok (.iconst 1, 1) := by decide +kernel
theorem dX9_comes_50 : decode cX9_comes 50 = .ok (.if_icmp .lt 24, 3) := by decide +kernel
theorem dX9_comes_53 : decode cX9_comes 53 = .ok (.iload_n 2, 1) := by decide +kernel
theorem dX9_comes_54 : decode cX9_comes 54 = .ok (.bipush 60, 2) := by decide +kernel
theorem dX9_comes_56 : decode cX9_comes 56 = .ok (.if_icmp .gt 18, 3) := by decide +kernel
theorem dX9_comes_59 : decode cX9_comes 59 = .ok (.iload_n 3, 1) := by decide +kernel
theorem dX9_comes_60 : decode cX9_comes 60 = .ok (.iconst 1, 1) := by decide +kernel
theorem dX9_comes_61 : decode cX9_comes 61 = .ok (.if_icmp .lt 13, 3) := by decide +kernel
theorem dX9_comes_64 : decode cX9_comes 64 = .ok (.aload_n 0, 1) := by decide +kernel
theorem dX9_comes_65 : decode cX9_comes 65 = .ok (.getfield 19, 3) := by decide +kernel
theorem dX9_comes_68 : decode cX9_comes 68 = .ok (.iconst 0, 1) := by decide +kernel
theorem dX9_comes_69 : decode cX9_comes 69 = .ok (.iaload, 1) := by decide +kernel
theorem dX9_comes_70 : decode cX9_comes 70 = .ok (.iconst 5, 1) := by decide +kernel
theorem dX9_comes_71 : decode cX9_comes 71 = .ok (.if_icmp .ne 5, 3) := by decide +kernel
theorem dX9_comes_74 : decode cX9_comes 74 = .ok (.iconst 0, 1) := by decide +kernel
theorem dX9_comes_75 : decode cX9_comes 75 = .ok (.ireturn, 1) := by decide +kernel
theorem dX9_comes_76 : decode cX9_comes 76 = .ok (.bipush 10, 2) := by decide +kernel
theorem dX9_comes_78 : decode cX9_comes 78 = .ok (.bipush 6, 2) := by decide +kernel
theorem dX9_comes_80 : decode cX9_comes 80 = .ok (.aload_n 0, 1) := by decide +kernel
theorem dX9_comes_81 : decode cX9_comes 81 = .ok (.getfield 19, 3) := by decide +kernel
theorem dX9_comes_84 : decode cX9_comes 84 = .ok (.iconst 0, 1) := by decide +kernel
theorem dX9_comes_85 : decode cX9_comes 85 = .ok (.iaload, 1) := by decide +kernel
theorem dX9_comes_86 : decode cX9_comes 86 = .ok (.imul, 1) := by decide +kernel
theorem dX9_comes_87 : decode cX9_comes 87 = .ok (.iadd, 1) := by decide +kernel
theorem dX9_comes_88 : decode cX9_comes 88 = .ok (.istore 4, 2) := by decide +kernel
theorem dX9_comes_90 : decode cX9_comes 90 = .ok (.iconst 0, 1) := by decide +kernel
theorem dX9_comes_91 : decode cX9_comes 91 = .ok (.istore 5, 2) := by decide +kernel
theorem dX9_comes_93 : decode cX9_comes 93 = .ok (.iload 5, 2) := by decide +kernel
theorem dX9_comes_95 : decode cX9_comes 95 = .ok (.bipush 6, 2) := by decide +kernel
theorem dX9_comes_97 : decode cX9_comes 97 = .ok (.if_icmp .ge 39, 3) := by decide +kernel
theorem dX9_comes_100 : decode cX9_comes 100 = .ok (.aload_n 0, 1) := by decide +kernel
theorem dX9_comes_101 : decode cX9_comes 101 = .ok (.getfield 19, 3) := by decide +kernel
theorem dX9_comes_104 : decode cX9_comes 104 = .ok (.iload 4, 2) := by decide +kernel
theorem dX9_comes_106 : decode cX9_comes 106 = .ok (.iload 5, 2) := by decide +kernel
theorem dX9_comes_108 : decode cX9_comes 108 = .ok (.iadd, 1) := by decide +kernel
theorem dX9_comes_109 : decode cX9_comes 109 = .ok (.iload 5, 2) := by decide +kernel
theorem dX9_comes_111 : decode cX9_comes 111 = .ok (.ifCond .ne 7, 3) := by decide +kernel
theorem dX9_comes_114 : decode cX9_comes 114 = .ok (.iload_n 2, 1) := by decide +kernel
theorem dX9_comes_115 : decode cX9_comes 115 = .ok (.goto 14, 3) := by decide +kernel
theorem dX9_comes_118 : decode cX9_comes 118 = .ok (.iload 5, 2) := by decide +kernel
theorem dX9_comes_120 : decode cX9_comes 120 = .ok (.iconst 1, 1) := by decide +kernel
theorem dX9_comes_121 : decode cX9_comes 121 = .ok (.if_icmp .ne 7, 3) := by decide +kernel
theorem dX9_comes_124 : decode cX9_comes 124 = .ok (.iload_n 3, 1) := by decide +kernel
theorem dX9_comes_125 : decode cX9_comes 125 = .ok (.goto 4, 3) := by decide +kernel
theorem dX9_comes_128 : decode cX9_comes 128 = .ok (.iconst 0, 1) := by decide +kernel
theorem dX9_comes_129 : decode cX9_comes 129 = .ok (.iastore, 1) := by decide +kernel
theorem dX9_comes_130 : decode cX9_comes 130 = .ok (.iinc 5 1, 3) := by decide +kernel
theorem dX9_comes_133 : decode cX9_comes 133 = .ok (.goto (-40), 3) := by decide +kernel
theorem dX9_comes_136 : decode cX9_comes 136 = .ok (.aload_n 0, 1) := by decide +kernel
theorem dX9_comes_137 : decode cX9_comes 137 = .ok (.getfield 19, 3) := by decide +kernel
theorem dX9_comes_140 : decode cX9_comes 140 = .ok (.iconst 0, 1) := by decide +kernel
theorem dX9_comes_141 : decode cX9_comes 141 = .ok (.dup2, 1) := by decide +kernel
theorem dX9_comes_142 : decode cX9_comes 142 = .ok (.iaload, 1) := by decide +kernel
theorem dX9_comes_143 : decode cX9_comes 143 = .ok (.iconst 1, 1) := by decide +kernel
theorem dX9_comes_144 : decode cX9_comes 144 = .ok (.iadd, 1) := by decide +kernel
theorem dX9_comes_145 : decode cX9_comes 145 = .ok (.iastore, 1) := by decide +kernel
theorem dX9_comes_146 : decode cX9_comes 146 = .ok (.iconst 1, 1) := by decide +kernel
theorem dX9_comes_147 : decode cX9_comes 147 = .ok (.ireturn, 1) := by decide +kernel
theorem dX9_comes_148 : decode cX9_comes 148 = .ok (.iload_n 2, 1) := by decide +kernel
theorem dX9_comes_149 : decode cX9_comes 149 = .ok (.bipush 31, 2) := by decide +kernel
theorem dX9_comes_151 : decode cX9_comes 151 = .ok (.if_icmp .gt 14, 3) := by decide +kernel
theorem dX9_comes_154 : decode cX9_comes 154 = .ok (.aload_n 0, 1) := by decide +kernel
theorem dX9_comes_155 : decode cX9_comes 155 = .ok (.getfield 19, 3) := by decide +kernel
theorem dX9_comes_158 : decode cX9_comes 158 = .ok (.iconst 1, 1) := by decide +kernel
theorem dX9_comes_159 : decode cX9_comes 159 = .ok (.iaload, 1) := by decide +kernel
theorem dX9_comes_160 : decode cX9_comes 160 = .ok (.bipush 6, 2) := by decide +kernel
theorem dX9_comes_162 : decode cX9_comes 162 = .ok (.if_icmp .ne 5, 3) := by decide +kernel
theorem dX9_comes_165 : decode cX9_comes 165 = .ok (.iconst 0, 1) := by decide +kernel
theorem dX9_comes_166 : decode cX9_comes 166 = .ok (.ireturn, 1) := by decide +kernel
theorem dX9_comes_167 : decode cX9_comes 167 = .ok (.bipush 40, 2) := by decide +kernel
theorem dX9_comes_169 : decode cX9_comes 169 = .ok (.iconst 4, 1) := by decide +kernel
theorem dX9_comes_170 : decode cX9_comes 170 = .ok (.aload_n 0, 1) := by decide +kernel
theorem dX9_comes_171 : decode cX9_comes 171 = .ok (.getfield 19, 3) := by decide +kernel
theorem dX9_comes_174 : decode cX9_comes 174 = .ok (.iconst 1, 1) := by decide +kernel
theorem dX9_comes_175 : decode cX9_comes 175 = .ok (.iaload, 1) := by decide +kernel
theorem dX9_comes_176 : decode cX9_comes 176 = .ok (.imul, 1) := by decide +kernel
theorem dX9_comes_177 : decode cX9_comes 177 = .ok (.iadd, 1) := by decide +kernel
theorem dX9_comes_178 : decode cX9_comes 178 = .ok (.istore 4, 2) := by decide +kernel
theorem dX9_comes_180 : decode cX9_comes 180 = .ok (.iconst 0, 1) := by decide +kernel
theorem dX9_comes_181 : decode cX9_comes 181 = .ok (.istore 5, 2) := by decide +kernel
theorem dX9_comes_183 : decode cX9_comes 183 = .ok (.iload 5, 2) := by decide +kernel
theorem dX9_comes_185 : decode cX9_comes 185 = .ok (.iconst 4, 1) := by decide +kernel
theorem dX9_comes_186 : decode cX9_comes 186 = .ok (.if_icmp .ge 30, 3) := by decide +kernel
theorem dX9_comes_189 : decode cX9_comes 189 = .ok (.aload_n 0, 1) := by decide +kernel
theorem dX9_comes_190 : decode cX9_comes 190 = .ok (.getfield 19, 3) := by decide +kernel
theorem dX9_comes_193 : decode cX9_comes 193 = .ok (.iload 4, 2) := by decide +kernel
theorem dX9_comes_195 : decode cX9_comes 195 = .ok (.iload 5, 2) := by decide +kernel
theorem dX9_comes_197 : decode cX9_comes 197 = .ok (.iadd, 1) := by decide +kernel
theorem dX9_comes_198 : decode cX9_comes 198 = .ok (.iload 5, 2) := by decide +kernel
theorem dX9_comes_200 : decode cX9_comes 200 = .ok (.ifCond .ne 7, 3) := by decide +kernel
theorem dX9_comes_203 : decode cX9_comes 203 = .ok (.iload_n 2, 1) := by decide +kernel
theorem dX9_comes_204 : decode cX9_comes 204 = .ok (.goto 5, 3) := by decide +kernel
theorem dX9_comes_207 : decode cX9_comes 207 = .ok (.bipush (-9), 2) := by decide +kernel
theorem dX9_comes_209 : decode cX9_comes 209 = .ok (.iastore, 1) := by decide +kernel
theorem dX9_comes_210 : decode cX9_comes 210 = .ok (.iinc 5 1, 3) := by decide +kernel
theorem dX9_comes_213 : decode cX9_comes 213 = .ok (.goto (-30), 3) := by decide +kernel
theorem dX9_comes_216 : decode cX9_comes 216 = .ok (.aload_n 0, 1) := by decide +kernel
theorem dX9_comes_217 : decode cX9_comes 217 = .ok (.getfield 19, 3) := by decide +kernel
theorem dX9_comes_220 : decode cX9_comes 220 = .ok (.iconst 1, 1) := by decide +kernel
theorem dX9_comes_221 : decode cX9_comes 221 = .ok (.dup2, 1) := by decide +kernel
theorem dX9_comes_222 : decode cX9_comes 222 = .ok (.iaload, 1) := by decide +kernel
theorem dX9_comes_223 : decode cX9_comes 223 = .ok (.iconst 1, 1) := by decide +kernel
theorem dX9_comes_224 : decode cX9_comes 224 = .ok (.iadd, 1) := by decide +kernel
theorem dX9_comes_225 : decode cX9_comes 225 = .ok (.iastore, 1) := by decide +kernel
theorem dX9_comes_226 : decode cX9_comes 226 = .ok (.iconst 1, 1) := by decide +kernel
theorem dX9_comes_227 : decode cX9_comes 227 = .ok (.ireturn, 1) := by decide +kernel
theorem dX9_comes_228 : decode cX9_comes 228 = .ok (.iload_n 2, 1) := by decide +kernel
theorem dX9_comes_229 : decode cX9_comes 229 = .ok (.iconst 3, 1) := by decide +kernel
theorem dX9_comes_230 : decode cX9_comes 230 = .ok (.if_icmp .gt 24, 3) := by decide +kernel
theorem dX9_comes_233 : decode cX9_comes 233 = .ok (.iload_n 3, 1) := by decide +kernel
theorem dX9_comes_234 : decode cX9_comes 234 = .ok (.aload_n 0, 1) := by decide +kernel
theorem dX9_comes_235 : decode cX9_comes 235 = .ok (.getfield 19, 3) := by decide +kernel
theorem dX9_comes_238 : decode cX9_comes 238 = .ok (.iconst 0, 1) := by decide +kernel
theorem dX9_comes_239 : decode cX9_comes 239 = .ok (.iaload, 1) := by decide +kernel
theorem dX9_comes_240 : decode cX9_comes 240 = .ok (.if_icmp .ge 14, 3) := by decide +kernel
theorem dX9_comes_243 : decode cX9_comes 243 = .ok (.aload_n 0, 1) := by decide +kernel
theorem dX9_comes_244 : decode cX9_comes 244 = .ok (.getfield 28, 3) := by decide +kernel
theorem dX9_comes_247 : decode cX9_comes 247 = .ok (.iconst 2, 1) := by decide +kernel
theorem dX9_comes_248 : decode cX9_comes 248 = .ok (.iaload, 1) := by decide +kernel
theorem dX9_comes_249 : decode cX9_comes 249 = .ok (.bipush 25, 2) := by decide +kernel
theorem dX9_comes_251 : decode cX9_comes 251 = .ok (.if_icmp .le 5, 3) := by decide +kernel
theorem dX9_comes_254 : decode cX9_comes 254 = .ok (.iconst 0, 1) := by decide +kernel
theorem dX9_comes_255 : decode cX9_comes 255 = .ok (.ireturn, 1) := by decide +kernel
theorem dX9_comes_256 : decode cX9_comes 256 = .ok (.aload_n 0, 1) := by decide +kernel
theorem dX9_comes_257 : decode cX9_comes 257 = .ok (.getfield 19, 3) := by decide +kernel
theorem dX9_comes_260 : decode cX9_comes 260 = .ok (.bipush 10, 2) := by decide +kernel
theorem dX9_comes_262 : decode cX9_comes 262 = .ok (.bipush 6, 2) := by decide +kernel
theorem dX9_comes_264 : decode cX9_comes 264 = .ok (.iload_n 3, 1) := by decide +kernel
theorem dX9_comes_265 : decode cX9_comes 265 = .ok (.imul, 1) := by decide +kernel
theorem dX9_comes_266 : decode cX9_comes 266 = .ok (.iadd, 1) := by decide +kernel
theorem dX9_comes_267 : decode cX9_comes 267 = .ok (.iconst 2, 1) := by decide +kernel
theorem dX9_comes_268 : decode cX9_comes 268 = .ok (.iadd, 1) := by decide +kernel
theorem dX9_comes_269 : decode cX9_comes 269 = .ok (.iload_n 2, 1) := by decide +kernel
theorem dX9_comes_270 : decode cX9_comes 270 = .ok (.iadd, 1) := by decide +kernel
theorem dX9_comes_271 : decode cX9_comes 271 = .ok (.aload_n 0, 1) := by decide +kernel
theorem dX9_comes_272 : decode cX9_comes 272 = .ok (.getfield 28, 3) := by decide +kernel
theorem dX9_comes_275 : decode cX9_comes 275 = .ok (.iconst 2, 1) := by decide +kernel
theorem dX9_comes_276 : decode cX9_comes 276 = .ok (.iaload, 1) := by decide +kernel
theorem dX9_comes_277 : decode cX9_comes 277 = .ok (.iastore, 1) := by decide +kernel
theorem dX9_comes_278 : decode cX9_comes 278 = .ok (.iconst 1, 1) := by decide +kernel
theorem dX9_comes_279 : decode cX9_comes 279 = .ok (.ireturn, 1) := by decide +kernel
theorem dX9_comes_280 : decode cX9_comes 280 = .ok (.iload_n 2, 1) := by decide +kernel
theorem dX9_comes_281 : decode cX9_comes 281 = .ok (.iconst 1, 1) := by decide +kernel
theorem dX9_comes_282 : decode cX9_comes 282 = .ok (.if_icmp .lt 29, 3) := by decide +kernel
theorem dX9_comes_285 : decode cX9_comes 285 = .ok (.iload_n 2, 1) := by decide +kernel
theorem dX9_comes_286 : decode cX9_comes 286 = .ok (.iconst 3, 1) := by decide +kernel
theorem dX9_comes_287 : decode cX9_comes 287 = .ok (.if_icmp .gt 24, 3) := by decide +kernel
theorem dX9_comes_290 : decode cX9_comes 290 = .ok (.iload_n 3, 1) := by decide +kernel
theorem dX9_comes_291 : decode cX9_comes 291 = .ok (.aload_n 0, 1) := by decide +kernel
theorem dX9_comes_292 : decode cX9_comes 292 = .ok (.getfield 19, 3) := by decide +kernel
theorem dX9_comes_295 : decode cX9_comes 295 = .ok (.iconst 1, 1) := by decide +kernel
theorem dX9_comes_296 : decode cX9_comes 296 = .ok (.iaload, 1) := by decide +kernel
theorem dX9_comes_297 : decode cX9_comes 297 = .ok (.if_icmp .ge 14, 3) := by decide +kernel
theorem dX9_comes_300 : decode cX9_comes 300 = .ok (.aload_n 0, 1) := by decide +kernel
theorem dX9_comes_301 : decode cX9_comes 301 = .ok (.getfield 28, 3) := by decide +kernel
theorem dX9_comes_304 : decode cX9_comes 304 = .ok (.iconst 2, 1) := by decide +kernel
theorem dX9_comes_305 : decode cX9_comes 305 = .ok (.iaload, 1) := by decide +kernel
theorem dX9_comes_306 : decode cX9_comes 306 = .ok (.bipush 31, 2) := by decide +kernel
theorem dX9_comes_308 : decode cX9_comes 308 = .ok (.if_icmp .le 5, 3) := by decide +kernel
theorem dX9_comes_311 : decode cX9_comes 311 = .ok (.iconst 0, 1) := by decide +kernel
theorem dX9_comes_312 : decode cX9_comes 312 = .ok (.ireturn, 1) := by decide +kernel
theorem dX9_comes_313 : decode cX9_comes 313 = .ok (.aload_n 0, 1) := by decide +kernel
theorem dX9_comes_314 : decode cX9_comes 314 = .ok (.getfield 19, 3) := by decide +kernel
theorem dX9_comes_317 : decode cX9_comes 317 = .ok (.bipush 40, 2) := by decide +kernel
theorem dX9_comes_319 : decode cX9_comes 319 = .ok (.iconst 4, 1) := by decide +kernel
theorem dX9_comes_320 : decode cX9_comes 320 = .ok (.iload_n 3, 1) := by decide +kernel
theorem dX9_comes_321 : decode cX9_comes 321 = .ok (.imul, 1) := by decide +kernel
theorem dX9_comes_322 : decode cX9_comes 322 = .ok (.iadd, 1) := by decide +kernel
theorem dX9_comes_323 : decode cX9_comes 323 = .ok (.iload_n 2, 1) := by decide +kernel
theorem dX9_comes_324 : decode cX9_comes 324 = .ok (.iadd, 1) := by decide +kernel
theorem dX9_comes_325 : decode cX9_comes 325 = .ok (.aload_n 0, 1) := by decide +kernel
theorem dX9_comes_326 : decode cX9_comes 326 = .ok (.getfield 28, 3) := by decide +kernel
theorem dX9_comes_329 : decode cX9_comes 329 = .ok (.iconst 2, 1) := by decide +kernel
theorem dX9_comes_330 : decode cX9_comes 330 = .ok (.iaload, 1) := by decide +kernel
theorem dX9_comes_331 : decode cX9_comes 331 = .ok (.iastore, 1) := by decide +kernel
theorem dX9_comes_332 : decode cX9_comes 332 = .ok (.iconst 1, 1) := by decide +kernel
theorem dX9_comes_333 : decode cX9_comes 333 = .ok (.ireturn, 1) := by decide +kernel
theorem dX9_reads_0 : decode cX9_reads 0 = .ok (.aload_n 0, 1) := by decide +kernel
theorem dX9_reads_1 : decode cX9_reads 1 = .ok (.iconst 0, 1) := by decide +kernel
theorem dX9_reads_2 : decode cX9_reads 2 = .ok (.putfield 96, 3) := by decide +kernel
theorem dX9_reads_5 : decode cX9_reads 5 = .ok (.iconst 0, 1) := by decide +kernel
theorem dX9_reads_6 : decode cX9_reads 6 = .ok (.istore_n 1, 1) := by decide +kernel
theorem dX9_reads_7 : decode cX9_reads 7 = .ok (.aload_n 0, 1) := by decide +kernel
theorem dX9_reads_8 : decode cX9_reads 8 = .ok (.invokevirtual 114, 3) := by decide +kernel
theorem dX9_reads_11 : decode cX9_reads 11 = .ok (.ifCond .ne 12, 3) := by decide +kernel
theorem dX9_reads_14 : decode cX9_reads 14 = .ok (.sipush (-1000), 3) := by decide +kernel
theorem dX9_reads_17 : decode cX9_reads 17 = .ok (.aload_n 0, 1) := by decide +kernel
theorem dX9_reads_18 : decode cX9_reads 18 = .ok (.getfield 96, 3) := by decide +kernel
theorem dX9_reads_21 : decode cX9_reads 21 = .ok (.isub, 1) := by decide +kernel
theorem dX9_reads_22 : decode cX9_reads 22 = .ok (.ireturn, 1) := by decide +kernel
theorem dX9_reads_23 : decode cX9_reads 23 = .ok (.iinc 1 1, 3) := by decide +kernel
theorem dX9_reads_26 : decode cX9_reads 26 = .ok (.aload_n 0, 1) := by decide +kernel
theorem dX9_reads_27 : decode cX9_reads 27 = .ok (.getfield 96, 3) := by decide +kernel
theorem dX9_reads_30 : decode cX9_reads 30 = .ok (.aload_n 0, 1) := by decide +kernel
theorem dX9_reads_31 : decode cX9_reads 31 = .ok (.getfield 90, 3) := by decide +kernel
theorem dX9_reads_34 : decode cX9_reads 34 = .ok (.if_icmp .lt (-27), 3) := by decide +kernel
theorem dX9_reads_37 : decode cX9_reads 37 = .ok (.iconst 0, 1) := by decide +kernel
theorem dX9_reads_38 : decode cX9_reads 38 = .ok (.istore_n 2, 1) := by decide +kernel
theorem dX9_reads_39 : decode cX9_reads 39 = .ok (.iload_n 2, 1) := by decide +kernel
theorem dX9_reads_40 : decode cX9_reads 40 = .ok (.bipush 64, 2) := by decide +kernel
theorem dX9_reads_42 : decode cX9_reads 42 = .ok (.if_icmp .ge 21, 3) := by decide +kernel
theorem dX9_reads_45 : decode cX9_reads 45 = .ok (.aload_n 0, 1) := by decide +kernel
theorem dX9_reads_46 : decode cX9_reads 46 = .ok (.getfield 19, 3) := by decide +kernel
theorem dX9_reads_49 : decode cX9_reads 49 = .ok (.iload_n 2, 1) := by decide +kernel
theorem dX9_reads_50 : decode cX9_reads 50 = .ok (.aload_n 0, 1) := by decide +kernel
theorem dX9_reads_51 : decode cX9_reads 51 = .ok (.getfield 13, 3) := by decide +kernel
theorem dX9_reads_54 : decode cX9_reads 54 = .ok (.iload_n 2, 1) := by decide +kernel
theorem dX9_reads_55 : decode cX9_reads 55 = .ok (.iaload, 1) := by decide +kernel
theorem dX9_reads_56 : decode cX9_reads 56 = .ok (.iastore, 1) := by decide +kernel
theorem dX9_reads_57 : decode cX9_reads 57 = .ok (.iinc 2 1, 3) := by decide +kernel
theorem dX9_reads_60 : decode cX9_reads 60 = .ok (.goto (-21), 3) := by decide +kernel
theorem dX9_reads_63 : decode cX9_reads 63 = .ok (.aload_n 0, 1) := by decide +kernel
theorem dX9_reads_64 : decode cX9_reads 64 = .ok (.iconst 0, 1) := by decide +kernel
theorem dX9_reads_65 : decode cX9_reads 65 = .ok (.putfield 96, 3) := by decide +kernel
theorem dX9_reads_68 : decode cX9_reads 68 = .ok (.aload_n 0, 1) := by decide +kernel
theorem dX9_reads_69 : decode cX9_reads 69 = .ok (.getfield 96, 3) := by decide +kernel
theorem dX9_reads_72 : decode cX9_reads 72 = .ok (.aload_n 0, 1) := by decide +kernel
theorem dX9_reads_73 : decode cX9_reads 73 = .ok (.getfield 90, 3) := by decide +kernel
theorem dX9_reads_76 : decode cX9_reads 76 = .ok (.if_icmp .ge 36, 3) := by decide +kernel
theorem dX9_reads_79 : decode cX9_reads 79 = .ok (.aload_n 0, 1) := by decide +kernel
theorem dX9_reads_80 : decode cX9_reads 80 = .ok (.getfield 96, 3) := by decide +kernel
theorem dX9_reads_83 : decode cX9_reads 83 = .ok (.istore_n 2, 1) := by decide +kernel
theorem dX9_reads_84 : decode cX9_reads 84 = .ok (.aload_n 0, 1) := by decide +kernel
theorem dX9_reads_85 : decode cX9_reads 85 = .ok (.invokevirtual 99, 3) := by decide +kernel
theorem dX9_reads_88 : decode cX9_reads 88 = .ok (.istore_n 3, 1) := by decide +kernel
theorem dX9_reads_89 : decode cX9_reads 89 = .ok (.aload_n 0, 1) := by decide +kernel
theorem dX9_reads_90 : decode cX9_reads 90 = .ok (.invokevirtual 114, 3) := by decide +kernel
theorem dX9_reads_93 : decode cX9_reads 93 = .ok (.istore 4, 2) := by decide +kernel
theorem dX9_reads_95 : decode cX9_reads 95 = .ok (.aload_n 0, 1) := by decide +kernel
theorem dX9_reads_96 : decode cX9_reads 96 = .ok (.iload_n 3, 1) := by decide +kernel
theorem dX9_reads_97 : decode cX9_reads 97 = .ok (.invokevirtual 117, 3) := by decide +kernel
theorem dX9_reads_100 : decode cX9_reads 100 = .ok (.ifCond .ne 9, 3) := by decide +kernel
theorem dX9_reads_103 : decode cX9_reads 103 = .ok (.sipush (-2000), 3) := by decide +kernel
theorem dX9_reads_106 : decode cX9_reads 106 = .ok (.iload_n 2, 1) := by decide +kernel
theorem dX9_reads_107 : decode cX9_reads 107 = .ok (.isub, 1) := by decide +kernel
theorem dX9_reads_108 : decode cX9_reads 108 = .ok (.ireturn, 1) := by decide +kernel
theorem dX9_reads_109 : decode cX9_reads 109 = .ok (.goto (-41), 3) := by decide +kernel
theorem dX9_reads_112 : decode cX9_reads 112 = .ok (.iconst 0, 1) := by decide +kernel
theorem dX9_reads_113 : decode cX9_reads 113 = .ok (.istore_n 2, 1) := by decide +kernel
theorem dX9_reads_114 : decode cX9_reads 114 = .ok (.iload_n 2, 1) := by decide +kernel
theorem dX9_reads_115 : decode cX9_reads 115 = .ok (.bipush 64, 2) := by decide +kernel
theorem dX9_reads_117 : decode cX9_reads 117 = .ok (.if_icmp .ge 21, 3) := by decide +kernel
theorem dX9_reads_120 : decode cX9_reads 120 = .ok (.aload_n 0, 1) := by decide +kernel
theorem dX9_reads_121 : decode cX9_reads 121 = .ok (.getfield 13, 3) := by decide +kernel
theorem dX9_reads_124 : decode cX9_reads 124 = .ok (.iload_n 2, 1) := by decide +kernel
theorem dX9_reads_125 : decode cX9_reads 125 = .ok (.aload_n 0, 1) := by decide +kernel
theorem dX9_reads_126 : decode cX9_reads 126 = .ok (.getfield 19, 3) := by decide +kernel
theorem dX9_reads_129 : decode cX9_reads 129 = .ok (.iload_n 2, 1) := by decide +kernel
theorem dX9_reads_130 : decode cX9_reads 130 = .ok (.iaload, 1) := by decide +kernel
theorem dX9_reads_131 : decode cX9_reads 131 = .ok (.iastore, 1) := by decide +kernel
theorem dX9_reads_132 : decode cX9_reads 132 = .ok (.iinc 2 1, 3) := by decide +kernel
theorem dX9_reads_135 : decode cX9_reads 135 = .ok (.goto (-21), 3) := by decide +kernel
theorem dX9_reads_138 : decode cX9_reads 138 = .ok (.iload_n 1, 1) := by decide +kernel
theorem dX9_reads_139 : decode cX9_reads 139 = .ok (.ireturn, 1) := by decide +kernel
theorem dX9_house_0 : decode cX9_house 0 = .ok (.aload_n 0, 1) := by decide +kernel
theorem dX9_house_1 : decode cX9_house 1 = .ok (.invokevirtual 120, 3) := by decide +kernel
theorem dX9_house_4 : decode cX9_house 4 = .ok (.istore_n 1, 1) := by decide +kernel
theorem dX9_house_5 : decode cX9_house 5 = .ok (.aload_n 0, 1) := by decide +kernel
theorem dX9_house_6 : decode cX9_house 6 = .ok (.iconst 0, 1) := by decide +kernel
theorem dX9_house_7 : decode cX9_house 7 = .ok (.putfield 90, 3) := by decide +kernel
theorem dX9_house_10 : decode cX9_house 10 = .ok (.iload_n 1, 1) := by decide +kernel
theorem dX9_house_11 : decode cX9_house 11 = .ok (.ireturn, 1) := by decide +kernel
theorem dX9_sort_0 : decode cX9_sort 0 = .ok (.aload_n 0, 1) := by decide +kernel
theorem dX9_sort_1 : decode cX9_sort 1 = .ok (.iload_n 1, 1) := by decide +kernel
theorem dX9_sort_2 : decode cX9_sort 2 = .ok (.invokevirtual 123, 3) := by decide +kernel
theorem dX9_sort_5 : decode cX9_sort 5 = .ok (.ifCond .ne 11, 3) := by decide +kernel
theorem dX9_sort_8 : decode cX9_sort 8 = .ok (.aload_n 0, 1) := by decide +kernel
theorem dX9_sort_9 : decode cX9_sort 9 = .ok (.iconst (-1), 1) := by decide +kernel
theorem dX9_sort_10 : decode cX9_sort 10 = .ok (.invokevirtual 86, 3) := by decide +kernel
theorem dX9_sort_13 : decode cX9_sort 13 = .ok (.goto 35, 3) := by decide +kernel
theorem dX9_sort_16 : decode cX9_sort 16 = .ok (.iload_n 2, 1) := by decide +kernel
theorem dX9_sort_17 : decode cX9_sort 17 = .ok (.bipush 6, 2) := by decide +kernel
theorem dX9_sort_19 : decode cX9_sort 19 = .ok (.invokestatic 82, 3) := by decide +kernel
theorem dX9_sort_22 : decode cX9_sort 22 = .ok (.ifCond .eq 20, 3) := by decide +kernel
theorem dX9_sort_25 : decode cX9_sort 25 = .ok (.aload_n 0, 1) := by decide +kernel
theorem dX9_sort_26 : decode cX9_sort 26 = .ok (.getfield 13, 3) := by decide +kernel
theorem dX9_sort_29 : decode cX9_sort 29 = .ok (.bipush 10, 2) := by decide +kernel
theorem dX9_sort_31 : decode cX9_sort 31 = .ok (.bipush 6, 2) := by decide +kernel
theorem dX9_sort_33 : decode cX9_sort 33 = .ok (.iload_n 1, 1) := by decide +kernel
theorem dX9_sort_34 : decode cX9_sort 34 = .ok (.imul, 1) := by decide +kernel
theorem dX9_sort_35 : decode cX9_sort 35 = .ok (.iadd, 1) := by decide +kernel
theorem dX9_sort_36 : decode cX9_sort 36 = .ok (.iload_n 2, 1) := by decide +kernel
theorem dX9_sort_37 : decode cX9_sort 37 = .ok (.iadd, 1) := by decide +kernel
theorem dX9_sort_38 : decode cX9_sort 38 = .ok (.iaload, 1) := by decide +kernel
theorem dX9_sort_39 : decode cX9_sort 39 = .ok (.goto 9, 3) := by decide +kernel
theorem dX9_sort_42 : decode cX9_sort 42 = .ok (.aload_n 0, 1) := by decide +kernel
theorem dX9_sort_43 : decode cX9_sort 43 = .ok (.bipush (-2), 2) := by decide +kernel
theorem dX9_sort_45 : decode cX9_sort 45 = .ok (.invokevirtual 86, 3) := by decide +kernel
theorem dX9_sort_48 : decode cX9_sort 48 = .ok (.ireturn, 1) := by decide +kernel
theorem dX9_wordOf_0 : decode cX9_wordOf 0 = .ok (.iload_n 2, 1) := by decide +kernel
theorem dX9_wordOf_1 : decode cX9_wordOf 1 = .ok (.istore_n 3, 1) := by decide +kernel
theorem dX9_wordOf_2 : decode cX9_wordOf 2 = .ok (.iload_n 3, 1) := by decide +kernel
theorem dX9_wordOf_3 : decode cX9_wordOf 3 = .ok (.ifCond .le 25, 3) := by decide +kernel
theorem dX9_wordOf_6 : decode cX9_wordOf 6 = .ok (.aload_n 0, 1) := by decide +kernel
theorem dX9_wordOf_7 : decode cX9_wordOf 7 = .ok (.getfield 13, 3) := by decide +kernel
theorem dX9_wordOf_10 : decode cX9_wordOf 10 = .ok (.bipush 40, 2) := by decide +kernel
theorem dX9_wordOf_12 : decode cX9_wordOf 12 = .ok (.iconst 4, 1) := by decide +kernel
theorem dX9_wordOf_13 : decode cX9_wordOf 13 = .ok (.iload_n 1, 1) := by decide +kernel
theorem dX9_wordOf_14 : decode cX9_wordOf 14 = .ok (.imul, 1) := by decide +kernel
theorem dX9_wordOf_15 : decode cX9_wordOf 15 = .ok (.iadd, 1) := by decide +kernel
theorem dX9_wordOf_16 : decode cX9_wordOf 16 = .ok (.iload_n 3, 1) := by decide +kernel
theorem dX9_wordOf_17 : decode cX9_wordOf 17 = .ok (.iadd, 1) := by decide +kernel
theorem dX9_wordOf_18 : decode cX9_wordOf 18 = .ok (.iaload, 1) := by decide +kernel
theorem dX9_wordOf_19 : decode cX9_wordOf 19 = .ok (.ifCond .ge 9, 3) := by decide +kernel
theorem dX9_wordOf_22 : decode cX9_wordOf 22 = .ok (.iinc 3 (-1), 3) := by decide +kernel
theorem dX9_wordOf_25 : decode cX9_wordOf 25 = .ok (.goto (-23), 3) := by decide +kernel
theorem dX9_wordOf_28 : decode cX9_wordOf 28 = .ok (.aload_n 0, 1) := by decide +kernel
theorem dX9_wordOf_29 : decode cX9_wordOf 29 = .ok (.getfield 13, 3) := by decide +kernel
theorem dX9_wordOf_32 : decode cX9_wordOf 32 = .ok (.bipush 40, 2) := by decide +kernel
theorem dX9_wordOf_34 : decode cX9_wordOf 34 = .ok (.iconst 4, 1) := by decide +kernel
theorem dX9_wordOf_35 : decode cX9_wordOf 35 = .ok (.iload_n 1, 1) := by decide +kernel
theorem dX9_wordOf_36 : decode cX9_wordOf 36 = .ok (.imul, 1) := by decide +kernel
theorem dX9_wordOf_37 : decode cX9_wordOf 37 = .ok (.iadd, 1) := by decide +kernel
theorem dX9_wordOf_38 : decode cX9_wordOf 38 = .ok (.iload_n 3, 1) := by decide +kernel
theorem dX9_wordOf_39 : decode cX9_wordOf 39 = .ok (.iadd, 1) := by decide +kernel
theorem dX9_wordOf_40 : decode cX9_wordOf 40 = .ok (.iaload, 1) := by decide +kernel
theorem dX9_wordOf_41 : decode cX9_wordOf 41 = .ok (.ireturn, 1) := by decide +kernel
theorem dX9_lane_0 : decode cX9_lane 0 = .ok (.aload_n 0, 1) := by decide +kernel
theorem dX9_lane_1 : decode cX9_lane 1 = .ok (.iload_n 1, 1) := by decide +kernel
theorem dX9_lane_2 : decode cX9_lane 2 = .ok (.invokevirtual 126, 3) := by decide +kernel
theorem dX9_lane_5 : decode cX9_lane 5 = .ok (.ifCond .eq 20, 3) := by decide +kernel
theorem dX9_lane_8 : decode cX9_lane 8 = .ok (.iload_n 2, 1) := by decide +kernel
theorem dX9_lane_9 : decode cX9_lane 9 = .ok (.iconst 4, 1) := by decide +kernel
theorem dX9_lane_10 : decode cX9_lane 10 = .ok (.invokestatic 82, 3) := by decide +kernel
theorem dX9_lane_13 : decode cX9_lane 13 = .ok (.ifCond .eq 12, 3) := by decide +kernel
theorem dX9_lane_16 : decode cX9_lane 16 = .ok (.aload_n 0, 1) := by decide +kernel
theorem dX9_lane_17 : decode cX9_lane 17 = .ok (.iload_n 1, 1) := by decide +kernel
theorem dX9_lane_18 : decode cX9_lane 18 = .ok (.iload_n 2, 1) := by decide +kernel
theorem dX9_lane_19 : decode cX9_lane 19 = .ok (.invokevirtual 129, 3) := by decide +kernel
theorem dX9_lane_22 : decode cX9_lane 22 = .ok (.goto 8, 3) := by decide +kernel
theorem dX9_lane_25 : decode cX9_lane 25 = .ok (.aload_n 0, 1) := by decide +kernel
theorem dX9_lane_26 : decode cX9_lane 26 = .ok (.iconst (-1), 1) := by decide +kernel
theorem dX9_lane_27 : decode cX9_lane 27 = .ok (.invokevirtual 86, 3) := by decide +kernel
theorem dX9_lane_30 : decode cX9_lane 30 = .ok (.ireturn, 1) := by decide +kernel
theorem dX9_word_0 : decode cX9_word 0 = .ok (.aload_n 0, 1) := by decide +kernel
theorem dX9_word_1 : decode cX9_word 1 = .ok (.iload_n 1, 1) := by decide +kernel
theorem dX9_word_2 : decode cX9_word 2 = .ok (.invokevirtual 126, 3) := by decide +kernel
theorem dX9_word_5 : decode cX9_word 5 = .ok (.ifCond .eq 13, 3) := by decide +kernel
theorem dX9_word_8 : decode cX9_word 8 = .ok (.iload_n 2, 1) := by decide +kernel
theorem dX9_word_9 : decode cX9_word 9 = .ok (.iconst 0, 1) := by decide +kernel
theorem dX9_word_10 : decode cX9_word 10 = .ok (.bipush 31, 2) := by decide +kernel
theorem dX9_word_12 : decode cX9_word 12 = .ok (.invokestatic 133, 3) := by decide +kernel
theorem dX9_word_15 : decode cX9_word 15 = .ok (.goto 4, 3) := by decide +kernel
theorem dX9_word_18 : decode cX9_word 18 = .ok (.iconst (-1), 1) := by decide +kernel
theorem dX9_word_19 : decode cX9_word 19 = .ok (.istore_n 3, 1) := by decide +kernel
theorem dX9_word_20 : decode cX9_word 20 = .ok (.iload_n 3, 1) := by decide +kernel
theorem dX9_word_21 : decode cX9_word 21 = .ok (.ifCond .eq 11, 3) := by decide +kernel
theorem dX9_word_24 : decode cX9_word 24 = .ok (.aload_n 0, 1) := by decide +kernel
theorem dX9_word_25 : decode cX9_word 25 = .ok (.iload_n 3, 1) := by decide +kernel
theorem dX9_word_26 : decode cX9_word 26 = .ok (.invokevirtual 86, 3) := by decide +kernel
theorem dX9_word_29 : decode cX9_word 29 = .ok (.goto 14, 3) := by decide +kernel
theorem dX9_word_32 : decode cX9_word 32 = .ok (.aload_n 0, 1) := by decide +kernel
theorem dX9_word_33 : decode cX9_word 33 = .ok (.bipush 40, 2) := by decide +kernel
theorem dX9_word_35 : decode cX9_word 35 = .ok (.iconst 4, 1) := by decide +kernel
theorem dX9_word_36 : decode cX9_word 36 = .ok (.iload_n 1, 1) := by decide +kernel
theorem dX9_word_37 : decode cX9_word 37 = .ok (.imul, 1) := by decide +kernel
theorem dX9_word_38 : decode cX9_word 38 = .ok (.iadd, 1) := by decide +kernel
theorem dX9_word_39 : decode cX9_word 39 = .ok (.iload_n 2, 1) := by decide +kernel
theorem dX9_word_40 : decode cX9_word 40 = .ok (.invokevirtual 137, 3) := by decide +kernel
theorem dX9_word_43 : decode cX9_word 43 = .ok (.ireturn, 1) := by decide +kernel
theorem dX9_most_0 : decode cX9_most 0 = .ok (.iload_n 0, 1) := by decide +kernel
theorem dX9_most_1 : decode cX9_most 1 = .ok (.tableswitch 61 0 7 #[47, 50, 53, 61, 56, 47, 61, 58], 47) := by decide +kernel
theorem dX9_most_48 : decode cX9_most 48 = .ok (.bipush 60, 2) := by decide +kernel
theorem dX9_most_50 : decode cX9_most 50 = .ok (.ireturn, 1) := by decide +kernel
theorem dX9_most_51 : decode cX9_most 51 = .ok (.bipush 20, 2) := by decide +kernel
theorem dX9_most_53 : decode cX9_most 53 = .ok (.ireturn, 1) := by decide +kernel
theorem dX9_most_54 : decode cX9_most 54 = .ok (.bipush 100, 2) := by decide +kernel
theorem dX9_most_56 : decode cX9_most 56 = .ok (.ireturn, 1) := by decide +kernel
theorem dX9_most_57 : decode cX9_most 57 = .ok (.iconst 4, 1) := by decide +kernel
theorem dX9_most_58 : decode cX9_most 58 = .ok (.ireturn, 1) := by decide +kernel
theorem dX9_most_59 : decode cX9_most 59 = .ok (.bipush 9, 2) := by decide +kernel
theorem dX9_most_61 : decode cX9_most 61 = .ok (.ireturn, 1) := by decide +kernel
theorem dX9_most_62 : decode cX9_most 62 = .ok (.bipush 99, 2) := by decide +kernel
theorem dX9_most_64 : decode cX9_most 64 = .ok (.ireturn, 1) := by decide +kernel
theorem dX9_set_0 : decode cX9_set 0 = .ok (.iload_n 1, 1) := by decide +kernel
theorem dX9_set_1 : decode cX9_set 1 = .ok (.bipush 8, 2) := by decide +kernel
theorem dX9_set_3 : decode cX9_set 3 = .ok (.invokestatic 82, 3) := by decide +kernel
theorem dX9_set_6 : decode cX9_set 6 = .ok (.ifCond .ne 10, 3) := by decide +kernel
theorem dX9_set_9 : decode cX9_set 9 = .ok (.aload_n 0, 1) := by decide +kernel
theorem dX9_set_10 : decode cX9_set 10 = .ok (.bipush (-2), 2) := by decide +kernel
theorem dX9_set_12 : decode cX9_set 12 = .ok (.invokevirtual 86, 3) := by decide +kernel
theorem dX9_set_15 : decode cX9_set 15 = .ok (.ireturn, 1) := by decide +kernel
theorem dX9_set_16 : decode cX9_set 16 = .ok (.iload_n 2, 1) := by decide +kernel
theorem dX9_set_17 : decode cX9_set 17 = .ok (.iload_n 1, 1) := by decide +kernel
theorem dX9_set_18 : decode cX9_set 18 = .ok (.iconst 5, 1) := by decide +kernel
theorem dX9_set_19 : decode cX9_set 19 = .ok (.if_icmp .ne 7, 3) := by decide +kernel
theorem dX9_set_22 : decode cX9_set 22 = .ok (.iconst 1, 1) := by decide +kernel
theorem dX9_set_23 : decode cX9_set 23 = .ok (.goto 4, 3) := by decide +kernel
theorem dX9_set_26 : decode cX9_set 26 = .ok (.iconst 0, 1) := by decide +kernel
theorem dX9_set_27 : decode cX9_set 27 = .ok (.iload_n 1, 1) := by decide +kernel
theorem dX9_set_28 : decode cX9_set 28 = .ok (.invokestatic 140, 3) := by decide +kernel
theorem dX9_set_31 : decode cX9_set 31 = .ok (.invokestatic 133, 3) := by decide +kernel
theorem dX9_set_34 : decode cX9_set 34 = .ok (.istore_n 3, 1) := by decide +kernel
theorem dX9_set_35 : decode cX9_set 35 = .ok (.iload_n 3, 1) := by decide +kernel
theorem dX9_set_36 : decode cX9_set 36 = .ok (.ifCond .eq 11, 3) := by decide +kernel
theorem dX9_set_39 : decode cX9_set 39 = .ok (.aload_n 0, 1) := by decide +kernel
theorem dX9_set_40 : decode cX9_set 40 = .ok (.iload_n 3, 1) := by decide +kernel
theorem dX9_set_41 : decode cX9_set 41 = .ok (.invokevirtual 86, 3) := by decide +kernel
theorem dX9_set_44 : decode cX9_set 44 = .ok (.goto 11, 3) := by decide +kernel
theorem dX9_set_47 : decode cX9_set 47 = .ok (.aload_n 0, 1) := by decide +kernel
theorem dX9_set_48 : decode cX9_set 48 = .ok (.iconst 2, 1) := by decide +kernel
theorem dX9_set_49 : decode cX9_set 49 = .ok (.iload_n 1, 1) := by decide +kernel
theorem dX9_set_50 : decode cX9_set 50 = .ok (.iadd, 1) := by decide +kernel
theorem dX9_set_51 : decode cX9_set 51 = .ok (.iload_n 2, 1) := by decide +kernel
theorem dX9_set_52 : decode cX9_set 52 = .ok (.invokevirtual 137, 3) := by decide +kernel
theorem dX9_set_55 : decode cX9_set 55 = .ok (.ireturn, 1) := by decide +kernel
theorem dX9_come_0 : decode cX9_come 0 = .ok (.iload_n 1, 1) := by decide +kernel
theorem dX9_come_1 : decode cX9_come 1 = .ok (.iconst 4, 1) := by decide +kernel
theorem dX9_come_2 : decode cX9_come 2 = .ok (.invokestatic 82, 3) := by decide +kernel
theorem dX9_come_5 : decode cX9_come 5 = .ok (.ifCond .eq 21, 3) := by decide +kernel
theorem dX9_come_8 : decode cX9_come 8 = .ok (.aload_n 0, 1) := by decide +kernel
theorem dX9_come_9 : decode cX9_come 9 = .ok (.iload_n 2, 1) := by decide +kernel
theorem dX9_come_10 : decode cX9_come 10 = .ok (.invokevirtual 123, 3) := by decide +kernel
theorem dX9_come_13 : decode cX9_come 13 = .ok (.ifCond .eq 13, 3) := by decide +kernel
theorem dX9_come_16 : decode cX9_come 16 = .ok (.iload_n 3, 1) := by decide +kernel
theorem dX9_come_17 : decode cX9_come 17 = .ok (.iconst 0, 1) := by decide +kernel
theorem dX9_come_18 : decode cX9_come 18 = .ok (.bipush 25, 2) := by decide +kernel
theorem dX9_come_20 : decode cX9_come 20 = .ok (.invokestatic 133, 3) := by decide +kernel
theorem dX9_come_23 : decode cX9_come 23 = .ok (.goto 4, 3) := by decide +kernel
theorem dX9_come_26 : decode cX9_come 26 = .ok (.iconst (-1), 1) := by decide +kernel
theorem dX9_come_27 : decode cX9_come 27 = .ok (.istore 4, 2) := by decide +kernel
theorem dX9_come_29 : decode cX9_come 29 = .ok (.iload 4, 2) := by decide +kernel
theorem dX9_come_31 : decode cX9_come 31 = .ok (.ifCond .eq 12, 3) := by decide +kernel
theorem dX9_come_34 : decode cX9_come 34 = .ok (.aload_n 0, 1) := by decide +kernel
theorem dX9_come_35 : decode cX9_come 35 = .ok (.iload 4, 2) := by decide +kernel
theorem dX9_come_37 : decode cX9_come 37 = .ok (.invokevirtual 86, 3) := by decide +kernel
theorem dX9_come_40 : decode cX9_come 40 = .ok (.goto 19, 3) := by decide +kernel
theorem dX9_come_43 : decode cX9_come 43 = .ok (.aload_n 0, 1) := by decide +kernel
theorem dX9_come_44 : decode cX9_come 44 = .ok (.bipush 10, 2) := by decide +kernel
theorem dX9_come_46 : decode cX9_come 46 = .ok (.bipush 6, 2) := by decide +kernel
theorem dX9_come_48 : decode cX9_come 48 = .ok (.iload_n 2, 1) := by decide +kernel
theorem dX9_come_49 : decode cX9_come 49 = .ok (.imul, 1) := by decide +kernel
theorem dX9_come_50 : decode cX9_come 50 = .ok (.iadd, 1) := by decide +kernel
theorem dX9_come_51 : decode cX9_come 51 = .ok (.iconst 2, 1) := by decide +kernel
theorem dX9_come_52 : decode cX9_come 52 = .ok (.iadd, 1) := by decide +kernel
theorem dX9_come_53 : decode cX9_come 53 = .ok (.iload_n 1, 1) := by decide +kernel
theorem dX9_come_54 : decode cX9_come 54 = .ok (.iadd, 1) := by decide +kernel
theorem dX9_come_55 : decode cX9_come 55 = .ok (.iload_n 3, 1) := by decide +kernel
theorem dX9_come_56 : decode cX9_come 56 = .ok (.invokevirtual 137, 3) := by decide +kernel
theorem dX9_come_59 : decode cX9_come 59 = .ok (.ireturn, 1) := by decide +kernel
theorem dX9_setOf_0 : decode cX9_setOf 0 = .ok (.aload_n 0, 1) := by decide +kernel
theorem dX9_setOf_1 : decode cX9_setOf 1 = .ok (.getfield 13, 3) := by decide +kernel
theorem dX9_setOf_4 : decode cX9_setOf 4 = .ok (.iconst 2, 1) := by decide +kernel
theorem dX9_setOf_5 : decode cX9_setOf 5 = .ok (.iload_n 1, 1) := by decide +kernel
theorem dX9_setOf_6 : decode cX9_setOf 6 = .ok (.iadd, 1) := by decide +kernel
theorem dX9_setOf_7 : decode cX9_setOf 7 = .ok (.iaload, 1) := by decide +kernel
theorem dX9_setOf_8 : decode cX9_setOf 8 = .ok (.ireturn, 1) := by decide +kernel
theorem dX9_isShut_0 : decode cX9_isShut 0 = .ok (.iload_n 2, 1) := by decide +kernel
theorem dX9_isShut_1 : decode cX9_isShut 1 = .ok (.sipush 900, 3) := by decide +kernel
theorem dX9_isShut_4 : decode cX9_isShut 4 = .ok (.idiv, 1) := by decide +kernel
theorem dX9_isShut_5 : decode cX9_isShut 5 = .ok (.istore_n 3, 1) := by decide +kernel
theorem dX9_isShut_6 : decode cX9_isShut 6 = .ok (.iload_n 3, 1) := by decide +kernel
theorem dX9_isShut_7 : decode cX9_isShut 7 = .ok (.ifCond .le 43, 3) := by decide +kernel
theorem dX9_isShut_10 : decode cX9_isShut 10 = .ok (.iload_n 3, 1) := by decide +kernel
theorem dX9_isShut_11 : decode cX9_isShut 11 = .ok (.iconst 4, 1) := by decide +kernel
theorem dX9_isShut_12 : decode cX9_isShut 12 = .ok (.if_icmp .ge 38, 3) := by decide +kernel
theorem dX9_isShut_15 : decode cX9_isShut 15 = .ok (.iload_n 2, 1) := by decide +kernel
theorem dX9_isShut_16 : decode cX9_isShut 16 = .ok (.sipush 900, 3) := by decide +kernel
theorem dX9_isShut_19 : decode cX9_isShut 19 = .ok (.irem, 1) := by decide +kernel
theorem dX9_isShut_20 : decode cX9_isShut 20 = .ok (.aload_n 0, 1) := by decide +kernel
theorem dX9_isShut_21 : decode cX9_isShut 21 = .ok (.bipush 6, 2) := by decide +kernel
theorem dX9_isShut_23 : decode cX9_isShut 23 = .ok (.invokevirtual 143, 3) := by decide +kernel
theorem dX9_isShut_26 : decode cX9_isShut 26 = .ok (.if_icmp .ge 24, 3) := by decide +kernel
theorem dX9_isShut_29 : decode cX9_isShut 29 = .ok (.aload_n 0, 1) := by decide +kernel
theorem dX9_isShut_30 : decode cX9_isShut 30 = .ok (.iload_n 1, 1) := by decide +kernel
theorem dX9_isShut_31 : decode cX9_isShut 31 = .ok (.iload_n 3, 1) := by decide +kernel
theorem dX9_isShut_32 : decode cX9_isShut 32 = .ok (.invokevirtual 129, 3) := by decide +kernel
theorem dX9_isShut_35 : decode cX9_isShut 35 = .ok (.aload_n 0, 1) := by decide +kernel
theorem dX9_isShut_36 : decode cX9_isShut 36 = .ok (.iload_n 1, 1) := by decide +kernel
theorem dX9_isShut_37 : decode cX9_isShut 37 = .ok (.iload_n 3, 1) := by decide +kernel
theorem dX9_isShut_38 : decode cX9_isShut 38 = .ok (.iconst 1, 1) := by decide +kernel
theorem dX9_isShut_39 : decode cX9_isShut 39 = .ok (.isub, 1) := by decide +kernel
theorem dX9_isShut_40 : decode cX9_isShut 40 = .ok (.invokevirtual 129, 3) := by decide +kernel
theorem dX9_isShut_43 : decode cX9_isShut 43 = .ok (.if_icmp .eq 7, 3) := by decide +kernel
theorem dX9_isShut_46 : decode cX9_isShut 46 = .ok (.iconst 1, 1) := by decide +kernel
theorem dX9_isShut_47 : decode cX9_isShut 47 = .ok (.goto 4, 3) := by decide +kernel
theorem dX9_isShut_50 : decode cX9_isShut 50 = .ok (.iconst 0, 1) := by decide +kernel
theorem dX9_isShut_51 : decode cX9_isShut 51 = .ok (.ireturn, 1) := by decide +kernel
theorem dX9_wordAt_0 : decode cX9_wordAt 0 = .ok (.aload_n 0, 1) := by decide +kernel
theorem dX9_wordAt_1 : decode cX9_wordAt 1 = .ok (.iload_n 1, 1) := by decide +kernel
theorem dX9_wordAt_2 : decode cX9_wordAt 2 = .ok (.iload_n 2, 1) := by decide +kernel
theorem dX9_wordAt_3 : decode cX9_wordAt 3 = .ok (.sipush 900, 3) := by decide +kernel
theorem dX9_wordAt_6 : decode cX9_wordAt 6 = .ok (.idiv, 1) := by decide +kernel
theorem dX9_wordAt_7 : decode cX9_wordAt 7 = .ok (.iconst 4, 1) := by decide +kernel
theorem dX9_wordAt_8 : decode cX9_wordAt 8 = .ok (.if_icmp .ge 11, 3) := by decide +kernel
theorem dX9_wordAt_11 : decode cX9_wordAt 11 = .ok (.iload_n 2, 1) := by decide +kernel
theorem dX9_wordAt_12 : decode cX9_wordAt 12 = .ok (.sipush 900, 3) := by decide +kernel
theorem dX9_wordAt_15 : decode cX9_wordAt 15 = .ok (.idiv, 1) := by decide +kernel
theorem dX9_wordAt_16 : decode cX9_wordAt 16 = .ok (.goto 4, 3) := by decide +kernel
theorem dX9_wordAt_19 : decode cX9_wordAt 19 = .ok (.iconst 3, 1) := by decide +kernel
theorem dX9_wordAt_20 : decode cX9_wordAt 20 = .ok (.invokevirtual 129, 3) := by decide +kernel
theorem dX9_wordAt_23 : decode cX9_wordAt 23 = .ok (.ireturn, 1) := by decide +kernel
theorem dX9_isOpen_0 : decode cX9_isOpen 0 = .ok (.aload_n 0, 1) := by decide +kernel
theorem dX9_isOpen_1 : decode cX9_isOpen 1 = .ok (.iload_n 1, 1) := by decide +kernel
theorem dX9_isOpen_2 : decode cX9_isOpen 2 = .ok (.iload_n 3, 1) := by decide +kernel
theorem dX9_isOpen_3 : decode cX9_isOpen 3 = .ok (.invokevirtual 146, 3) := by decide +kernel
theorem dX9_isOpen_6 : decode cX9_isOpen 6 = .ok (.iload_n 2, 1) := by decide +kernel
theorem dX9_isOpen_7 : decode cX9_isOpen 7 = .ok (.ishr, 1) := by decide +kernel
theorem dX9_isOpen_8 : decode cX9_isOpen 8 = .ok (.iconst 1, 1) := by decide +kernel
theorem dX9_isOpen_9 : decode cX9_isOpen 9 = .ok (.iand, 1) := by decide +kernel
theorem dX9_isOpen_10 : decode cX9_isOpen 10 = .ok (.iconst 1, 1) := by decide +kernel
theorem dX9_isOpen_11 : decode cX9_isOpen 11 = .ok (.if_icmp .ne 30, 3) := by decide +kernel
theorem dX9_isOpen_14 : decode cX9_isOpen 14 = .ok (.aload_n 0, 1) := by decide +kernel
theorem dX9_isOpen_15 : decode cX9_isOpen 15 = .ok (.getfield 43, 3) := by decide +kernel
theorem dX9_isOpen_18 : decode cX9_isOpen 18 = .ok (.iload_n 1, 1) := by decide +kernel
theorem dX9_isOpen_19 : decode cX9_isOpen 19 = .ok (.iaload, 1) := by decide +kernel
theorem dX9_isOpen_20 : decode cX9_isOpen 20 = .ok (.aload_n 0, 1) := by decide +kernel
theorem dX9_isOpen_21 : decode cX9_isOpen 21 = .ok (.iconst 5, 1) := by decide +kernel
theorem dX9_isOpen_22 : decode cX9_isOpen 22 = .ok (.invokevirtual 143, 3) := by decide +kernel
theorem dX9_isOpen_25 : decode cX9_isOpen 25 = .ok (.if_icmp .ge 16, 3) := by decide +kernel
theorem dX9_isOpen_28 : decode cX9_isOpen 28 = .ok (.aload_n 0, 1) := by decide +kernel
theorem dX9_isOpen_29 : decode cX9_isOpen 29 = .ok (.iload_n 1, 1) := by decide +kernel
theorem dX9_isOpen_30 : decode cX9_isOpen 30 = .ok (.iload_n 3, 1) := by decide +kernel
theorem dX9_isOpen_31 : decode cX9_isOpen 31 = .ok (.invokevirtual 149, 3) := by decide +kernel
theorem dX9_isOpen_34 : decode cX9_isOpen 34 = .ok (.ifCond .ne 7, 3) := by decide +kernel
theorem dX9_isOpen_37 : decode cX9_isOpen 37 = .ok (.iconst 1, 1) := by decide +kernel
theorem dX9_isOpen_38 : decode cX9_isOpen 38 = .ok (.goto 4, 3) := by decide +kernel
theorem dX9_isOpen_41 : decode cX9_isOpen 41 = .ok (.iconst 0, 1) := by decide +kernel
theorem dX9_isOpen_42 : decode cX9_isOpen 42 = .ok (.ireturn, 1) := by decide +kernel
theorem dX9_bits_0 : decode cX9_bits 0 = .ok (.iconst 0, 1) := by decide +kernel
theorem dX9_bits_1 : decode cX9_bits 1 = .ok (.istore_n 1, 1) := by decide +kernel
theorem dX9_bits_2 : decode cX9_bits 2 = .ok (.iload_n 0, 1) := by decide +kernel
theorem dX9_bits_3 : decode cX9_bits 3 = .ok (.istore_n 2, 1) := by decide +kernel
theorem dX9_bits_4 : decode cX9_bits 4 = .ok (.iload_n 2, 1) := by decide +kernel
theorem dX9_bits_5 : decode cX9_bits 5 = .ok (.ifCond .le 16, 3) := by decide +kernel
theorem dX9_bits_8 : decode cX9_bits 8 = .ok (.iload_n 1, 1) := by decide +kernel
theorem dX9_bits_9 : decode cX9_bits 9 = .ok (.iload_n 2, 1) := by decide +kernel
theorem dX9_bits_10 : decode cX9_bits 10 = .ok (.iconst 1, 1) := by decide +kernel
theorem dX9_bits_11 : decode cX9_bits 11 = .ok (.iand, 1) := by decide +kernel
theorem dX9_bits_12 : decode cX9_bits 12 = .ok (.iadd, 1) := by decide +kernel
theorem dX9_bits_13 : decode cX9_bits 13 = .ok (.istore_n 1, 1) := by decide +kernel
theorem dX9_bits_14 : decode cX9_bits 14 = .ok (.iload_n 2, 1) := by decide +kernel
theorem dX9_bits_15 : decode cX9_bits 15 = .ok (.iconst 1, 1) := by decide +kernel
theorem dX9_bits_16 : decode cX9_bits 16 = .ok (.ishr, 1) := by decide +kernel
theorem dX9_bits_17 : decode cX9_bits 17 = .ok (.istore_n 2, 1) := by decide +kernel
theorem dX9_bits_18 : decode cX9_bits 18 = .ok (.goto (-14), 3) := by decide +kernel
theorem dX9_bits_21 : decode cX9_bits 21 = .ok (.iload_n 1, 1) := by decide +kernel
theorem dX9_bits_22 : decode cX9_bits 22 = .ok (.ireturn, 1) := by decide +kernel
theorem dX9_loadOf_0 : decode cX9_loadOf 0 = .ok (.iconst 0, 1) := by decide +kernel
theorem dX9_loadOf_1 : decode cX9_loadOf 1 = .ok (.istore_n 3, 1) := by decide +kernel
theorem dX9_loadOf_2 : decode cX9_loadOf 2 = .ok (.iconst 0, 1) := by decide +kernel
theorem dX9_loadOf_3 : decode cX9_loadOf 3 = .ok (.istore 4, 2) := by decide +kernel
theorem dX9_loadOf_5 : decode cX9_loadOf 5 = .ok (.iload 4, 2) := by decide +kernel
theorem dX9_loadOf_7 : decode cX9_loadOf 7 = .ok (.aload_n 0, 1) := by decide +kernel
theorem dX9_loadOf_8 : decode cX9_loadOf 8 = .ok (.getfield 43, 3) := by decide +kernel
theorem dX9_loadOf_11 : decode cX9_loadOf 11 = .ok (.iload_n 1, 1) := by decide +kernel
theorem dX9_loadOf_12 : decode cX9_loadOf 12 = .ok (.iaload, 1) := by decide +kernel
theorem dX9_loadOf_13 : decode cX9_loadOf 13 = .ok (.if_icmp .ge 66, 3) := by decide +kernel
theorem dX9_loadOf_16 : decode cX9_loadOf 16 = .ok (.iload 4, 2) := by decide +kernel
theorem dX9_loadOf_18 : decode cX9_loadOf 18 = .ok (.ifCond .ne 40, 3) := by decide +kernel
theorem dX9_loadOf_21 : decode cX9_loadOf 21 = .ok (.aload_n 0, 1) := by decide +kernel
theorem dX9_loadOf_22 : decode cX9_loadOf 22 = .ok (.getfield 46, 3) := by decide +kernel
theorem dX9_loadOf_25 : decode cX9_loadOf 25 = .ok (.iload_n 1, 1) := by decide +kernel
theorem dX9_loadOf_26 : decode cX9_loadOf 26 = .ok (.iaload, 1) := by decide +kernel
theorem dX9_loadOf_27 : decode cX9_loadOf 27 = .ok (.ifCond .lt 31, 3) := by decide +kernel
theorem dX9_loadOf_30 : decode cX9_loadOf 30 = .ok (.iload_n 3, 1) := by decide +kernel
theorem dX9_loadOf_31 : decode cX9_loadOf 31 = .ok (.aload_n 0, 1) := by decide +kernel
theorem dX9_loadOf_32 : decode cX9_loadOf 32 = .ok (.getfield 46, 3) := by decide +kernel
theorem dX9_loadOf_35 : decode cX9_loadOf 35 = .ok (.iload_n 1, 1) := by decide +kernel
theorem dX9_loadOf_36 : decode cX9_loadOf 36 = .ok (.iaload, 1) := by decide +kernel
theorem dX9_loadOf_37 : decode cX9_loadOf 37 = .ok (.iload_n 2, 1) := by decide +kernel
theorem dX9_loadOf_38 : decode cX9_loadOf 38 = .ok (.if_icmp .le 14, 3) := by decide +kernel
theorem dX9_loadOf_41 : decode cX9_loadOf 41 = .ok (.aload_n 0, 1) := by decide +kernel
theorem dX9_loadOf_42 : decode cX9_loadOf 42 = .ok (.getfield 46, 3) := by decide +kernel
theorem dX9_loadOf_45 : decode cX9_loadOf 45 = .ok (.iload_n 1, 1) := by decide +kernel
theorem dX9_loadOf_46 : decode cX9_loadOf 46 = .ok (.iaload, 1) := by decide +kernel
theorem dX9_loadOf_47 : decode cX9_loadOf 47 = .ok (.iload_n 2, 1) := by decide +kernel
theorem dX9_loadOf_48 : decode cX9_loadOf 48 = .ok (.isub, 1) := by decide +kernel
theorem dX9_loadOf_49 : decode cX9_loadOf 49 = .ok (.goto 4, 3) := by decide +kernel
theorem dX9_loadOf_52 : decode cX9_loadOf 52 = .ok (.iconst 0, 1) := by decide +kernel
theorem dX9_loadOf_53 : decode cX9_loadOf 53 = .ok (.iadd, 1) := by decide +kernel
theorem dX9_loadOf_54 : decode cX9_loadOf 54 = .ok (.istore_n 3, 1) := by decide +kernel
theorem dX9_loadOf_55 : decode cX9_loadOf 55 = .ok (.goto 18, 3) := by decide +kernel
theorem dX9_loadOf_58 : decode cX9_loadOf 58 = .ok (.iload_n 3, 1) := by decide +kernel
theorem dX9_loadOf_59 : decode cX9_loadOf 59 = .ok (.aload_n 0, 1) := by decide +kernel
theorem dX9_loadOf_60 : decode cX9_loadOf 60 = .ok (.getfield 37, 3) := by decide +kernel
theorem dX9_loadOf_63 : decode cX9_loadOf 63 = .ok (.bipush 60, 2) := by decide +kernel
theorem dX9_loadOf_65 : decode cX9_loadOf 65 = .ok (.iload_n 1, 1) := by decide +kernel
theorem dX9_loadOf_66 : decode cX9_loadOf 66 = .ok (.imul, 1) := by decide +kernel
theorem dX9_loadOf_67 : decode cX9_loadOf 67 = .ok (.iload 4, 2) := by decide +kernel
theorem dX9_loadOf_69 : decode cX9_loadOf 69 = .ok (.iadd, 1) := by decide +kernel
theorem dX9_loadOf_70 : decode cX9_loadOf 70 = .ok (.iaload, 1) := by decide +kernel
theorem dX9_loadOf_71 : decode cX9_loadOf 71 = .ok (.iadd, 1) := by decide +kernel
theorem dX9_loadOf_72 : decode cX9_loadOf 72 = .ok (.istore_n 3, 1) := by decide +kernel
theorem dX9_loadOf_73 : decode cX9_loadOf 73 = .ok (.iinc 4 1, 3) := by decide +kernel
theorem dX9_loadOf_76 : decode cX9_loadOf 76 = .ok (.goto (-71), 3) := by decide +kernel
theorem dX9_loadOf_79 : decode cX9_loadOf 79 = .ok (.iload_n 3, 1) := by decide +kernel
theorem dX9_loadOf_80 : decode cX9_loadOf 80 = .ok (.ireturn, 1) := by decide +kernel
theorem dX9_rank_0 : decode cX9_rank 0 = .ok (.aload_n 0, 1) := by decide +kernel
theorem dX9_rank_1 : decode cX9_rank 1 = .ok (.iconst 4, 1) := by decide +kernel
theorem dX9_rank_2 : decode cX9_rank 2 = .ok (.invokevirtual 143, 3) := by decide +kernel
theorem dX9_rank_5 : decode cX9_rank 5 = .ok (.tableswitch 63 1 4 #[31, 51, 58, 60], 31) := by decide +kernel
theorem dX9_rank_36 : decode cX9_rank 36 = .ok (.bipush 100, 2) := by decide +kernel
theorem dX9_rank_38 : decode cX9_rank 38 = .ok (.aload_n 0, 1) := by decide +kernel
theorem dX9_rank_39 : decode cX9_rank 39 = .ok (.iload_n 1, 1) := by decide +kernel
theorem dX9_rank_40 : decode cX9_rank 40 = .ok (.iload_n 3, 1) := by decide +kernel
theorem dX9_rank_41 : decode cX9_rank 41 = .ok (.invokevirtual 146, 3) := by decide +kernel
theorem dX9_rank_44 : decode cX9_rank 44 = .ok (.invokestatic 152, 3) := by decide +kernel
theorem dX9_rank_47 : decode cX9_rank 47 = .ok (.imul, 1) := by decide +kernel
theorem dX9_rank_48 : decode cX9_rank 48 = .ok (.aload_n 0, 1) := by decide +kernel
theorem dX9_rank_49 : decode cX9_rank 49 = .ok (.getfield 43, 3) := by decide +kernel
theorem dX9_rank_52 : decode cX9_rank 52 = .ok (.iload_n 1, 1) := by decide +kernel
theorem dX9_rank_53 : decode cX9_rank 53 = .ok (.iaload, 1) := by decide +kernel
theorem dX9_rank_54 : decode cX9_rank 54 = .ok (.iadd, 1) := by decide +kernel
theorem dX9_rank_55 : decode cX9_rank 55 = .ok (.ireturn, 1) := by decide +kernel
theorem dX9_rank_56 : decode cX9_rank 56 = .ok (.aload_n 0, 1) := by decide +kernel
theorem dX9_rank_57 : decode cX9_rank 57 = .ok (.iload_n 1, 1) := by decide +kernel
theorem dX9_rank_58 : decode cX9_rank 58 = .ok (.iload_n 3, 1) := by decide +kernel
theorem dX9_rank_59 : decode cX9_rank 59 = .ok (.invokevirtual 155, 3) := by decide +kernel
theorem dX9_rank_62 : decode cX9_rank 62 = .ok (.ireturn, 1) := by decide +kernel
theorem dX9_rank_63 : decode cX9_rank 63 = .ok (.iload_n 1, 1) := by decide +kernel
theorem dX9_rank_64 : decode cX9_rank 64 = .ok (.ireturn, 1) := by decide +kernel
theorem dX9_rank_65 : decode cX9_rank 65 = .ok (.iload_n 1, 1) := by decide +kernel
theorem dX9_rank_66 : decode cX9_rank 66 = .ok (.ineg, 1) := by decide +kernel
theorem dX9_rank_67 : decode cX9_rank 67 = .ok (.ireturn, 1) := by decide +kernel
theorem dX9_rank_68 : decode cX9_rank 68 = .ok (.aload_n 0, 1) := by decide +kernel
theorem dX9_rank_69 : decode cX9_rank 69 = .ok (.getfield 43, 3) := by decide +kernel
theorem dX9_rank_72 : decode cX9_rank 72 = .ok (.iload_n 1, 1) := by decide +kernel
theorem dX9_rank_73 : decode cX9_rank 73 = .ok (.iaload, 1) := by decide +kernel
theorem dX9_rank_74 : decode cX9_rank 74 = .ok (.ireturn, 1) := by decide +kernel
theorem dX9_chosen_0 : decode cX9_chosen 0 = .ok (.bipush (-9), 2) := by decide +kernel
theorem dX9_chosen_2 : decode cX9_chosen 2 = .ok (.istore_n 3, 1) := by decide +kernel
theorem dX9_chosen_3 : decode cX9_chosen 3 = .ok (.iconst 0, 1) := by decide +kernel
theorem dX9_chosen_4 : decode cX9_chosen 4 = .ok (.istore 4, 2) := by decide +kernel
theorem dX9_chosen_6 : decode cX9_chosen 6 = .ok (.iconst 0, 1) := by decide +kernel
theorem dX9_chosen_7 : decode cX9_chosen 7 = .ok (.istore 5, 2) := by decide +kernel
theorem dX9_chosen_9 : decode cX9_chosen 9 = .ok (.iload 5, 2) := by decide +kernel
theorem dX9_chosen_11 : decode cX9_chosen 11 = .ok (.aload_n 0, 1) := by decide +kernel
theorem dX9_chosen_12 : decode cX9_chosen 12 = .ok (.getfield 13, 3) := by decide +kernel
theorem dX9_chosen_15 : decode cX9_chosen 15 = .ok (.iconst 1, 1) := by decide +kernel
theorem dX9_chosen_16 : decode cX9_chosen 16 = .ok (.iaload, 1) := by decide +kernel
theorem dX9_chosen_17 : decode cX9_chosen 17 = .ok (.if_icmp .ge 54, 3) := by decide +kernel
theorem dX9_chosen_20 : decode cX9_chosen 20 = .ok (.aload_n 0, 1) := by decide +kernel
theorem dX9_chosen_21 : decode cX9_chosen 21 = .ok (.iload 5, 2) := by decide +kernel
theorem dX9_chosen_23 : decode cX9_chosen 23 = .ok (.iload_n 1, 1) := by decide +kernel
theorem dX9_chosen_24 : decode cX9_chosen 24 = .ok (.iload_n 2, 1) := by decide +kernel
theorem dX9_chosen_25 : decode cX9_chosen 25 = .ok (.invokevirtual 158, 3) := by decide +kernel
theorem dX9_chosen_28 : decode cX9_chosen 28 = .ok (.ifCond .ne 6, 3) := by decide +kernel
theorem dX9_chosen_31 : decode cX9_chosen 31 = .ok (.goto 34, 3) := by decide +kernel
theorem dX9_chosen_34 : decode cX9_chosen 34 = .ok (.aload_n 0, 1) := by decide +kernel
theorem dX9_chosen_35 : decode cX9_chosen 35 = .ok (.iload 5, 2) := by decide +kernel
theorem dX9_chosen_37 : decode cX9_chosen 37 = .ok (.iload_n 1, 1) := by decide +kernel
theorem dX9_chosen_38 : decode cX9_chosen 38 = .ok (.iload_n 2, 1) := by decide +kernel
theorem dX9_chosen_39 : decode cX9_chosen 39 = .ok (.invokevirtual 162, 3) := by decide +kernel
theorem dX9_chosen_42 : decode cX9_chosen 42 = .ok (.istore 6, 2) := by decide +kernel
theorem dX9_chosen_44 : decode cX9_chosen 44 = .ok (.iload_n 3, 1) := by decide +kernel
theorem dX9_chosen_45 : decode cX9_chosen 45 = .ok (.ifCond .lt 13, 3) := by decide +kernel
theorem dX9_chosen_48 : decode cX9_chosen 48 = .ok (.iload 6, 2) := by decide +kernel
theorem dX9_chosen_50 : decode cX9_chosen 50 = .ok (.iload 4, 2) := by decide +kernel
theorem dX9_chosen_52 : decode cX9_chosen 52 = .ok (.if_icmp .lt 6, 3) := by decide +kernel
theorem dX9_chosen_55 : decode cX9_chosen 55 = .ok (.goto 10, 3) := by decide +kernel
theorem dX9_chosen_58 : decode cX9_chosen 58 = .ok (.iload 5, 2) := by decide +kernel
theorem dX9_chosen_60 : decode cX9_chosen 60 = .ok (.istore_n 3, 1) := by decide +kernel
theorem dX9_chosen_61 : decode cX9_chosen 61 = .ok (.iload 6, 2) := by decide +kernel
theorem dX9_chosen_63 : decode cX9_chosen 63 = .ok (.istore 4, 2) := by decide +kernel
theorem dX9_chosen_65 : decode cX9_chosen 65 = .ok (.iinc 5 1, 3) := by decide +kernel
theorem dX9_chosen_68 : decode cX9_chosen 68 = .ok (.goto (-59), 3) := by decide +kernel
theorem dX9_chosen_71 : decode cX9_chosen 71 = .ok (.iload_n 3, 1) := by decide +kernel
theorem dX9_chosen_72 : decode cX9_chosen 72 = .ok (.ireturn, 1) := by decide +kernel
theorem dX9_stands_0 : decode cX9_stands 0 = .ok (.bipush 60, 2) := by decide +kernel
theorem dX9_stands_2 : decode cX9_stands 2 = .ok (.iload_n 1, 1) := by decide +kernel
theorem dX9_stands_3 : decode cX9_stands 3 = .ok (.imul, 1) := by decide +kernel
theorem dX9_stands_4 : decode cX9_stands 4 = .ok (.aload_n 0, 1) := by decide +kernel
theorem dX9_stands_5 : decode cX9_stands 5 = .ok (.getfield 43, 3) := by decide +kernel
theorem dX9_stands_8 : decode cX9_stands 8 = .ok (.iload_n 1, 1) := by decide +kernel
theorem dX9_stands_9 : decode cX9_stands 9 = .ok (.iaload, 1) := by decide +kernel
theorem dX9_stands_10 : decode cX9_stands 10 = .ok (.iadd, 1) := by decide +kernel
theorem dX9_stands_11 : decode cX9_stands 11 = .ok (.istore 6, 2) := by decide +kernel
theorem dX9_stands_13 : decode cX9_stands 13 = .ok (.aload_n 0, 1) := by decide +kernel
theorem dX9_stands_14 : decode cX9_stands 14 = .ok (.getfield 31, 3) := by decide +kernel
theorem dX9_stands_17 : decode cX9_stands 17 = .ok (.iload 6, 2) := by decide +kernel
theorem dX9_stands_19 : decode cX9_stands 19 = .ok (.iload_n 2, 1) := by decide +kernel
theorem dX9_stands_20 : decode cX9_stands 20 = .ok (.iastore, 1) := by decide +kernel
theorem dX9_stands_21 : decode cX9_stands 21 = .ok (.aload_n 0, 1) := by decide +kernel
theorem dX9_stands_22 : decode cX9_stands 22 = .ok (.getfield 34, 3) := by decide +kernel
theorem dX9_stands_25 : decode cX9_stands 25 = .ok (.iload 6, 2) := by decide +kernel
theorem dX9_stands_27 : decode cX9_stands 27 = .ok (.iload_n 3, 1) := by decide +kernel
theorem dX9_stands_28 : decode cX9_stands 28 = .ok (.iastore, 1) := by decide +kernel
theorem dX9_stands_29 : decode cX9_stands 29 = .ok (.aload_n 0, 1) := by decide +kernel
theorem dX9_stands_30 : decode cX9_stands 30 = .ok (.getfield 37, 3) := by decide +kernel
theorem dX9_stands_33 : decode cX9_stands 33 = .ok (.iload 6, 2) := by decide +kernel
theorem dX9_stands_35 : decode cX9_stands 35 = .ok (.iload 4, 2) := by decide +kernel
theorem dX9_stands_37 : decode cX9_stands 37 = .ok (.iastore, 1) := by decide +kernel
theorem dX9_stands_38 : decode cX9_stands 38 = .ok (.aload_n 0, 1) := by decide +kernel
theorem dX9_stands_39 : decode cX9_stands 39 = .ok (.getfield 40, 3) := by decide +kernel
theorem dX9_stands_42 : decode cX9_stands 42 = .ok (.iload 6, 2) := by decide +kernel
theorem dX9_stands_44 : decode cX9_stands 44 = .ok (.iload 5, 2) := by decide +kernel
theorem dX9_stands_46 : decode cX9_stands 46 = .ok (.iastore, 1) := by decide +kernel
theorem dX9_stands_47 : decode cX9_stands 47 = .ok (.aload_n 0, 1) := by decide +kernel
theorem dX9_stands_48 : decode cX9_stands 48 = .ok (.getfield 43, 3) := by decide +kernel
theorem dX9_stands_51 : decode cX9_stands 51 = .ok (.iload_n 1, 1) := by decide +kernel
theorem dX9_stands_52 : decode cX9_stands 52 = .ok (.dup2, 1) := by decide +kernel
theorem dX9_stands_53 : decode cX9_stands 53 = .ok (.iaload, 1) := by decide +kernel
theorem dX9_stands_54 : decode cX9_stands 54 = .ok (.iconst 1, 1) := by decide +kernel
theorem dX9_stands_55 : decode cX9_stands 55 = .ok (.iadd, 1) := by decide +kernel
theorem dX9_stands_56 : decode cX9_stands 56 = .ok (.iastore, 1) := by decide +kernel
theorem dX9_stands_57 : decode cX9_stands 57 = .ok (.aload_n 0, 1) := by decide +kernel
theorem dX9_stands_58 : decode cX9_stands 58 = .ok (.getfield 55, 3) := by decide +kernel
theorem dX9_stands_61 : decode cX9_stands 61 = .ok (.iload_n 2, 1) := by decide +kernel
theorem dX9_stands_62 : decode cX9_stands 62 = .ok (.dup2, 1) := by decide +kernel
theorem dX9_stands_63 : decode cX9_stands 63 = .ok (.iaload, 1) := by decide +kernel
theorem dX9_stands_64 : decode cX9_stands 64 = .ok (.iconst 1, 1) := by decide +kernel
theorem dX9_stands_65 : decode cX9_stands 65 = .ok (.iadd, 1) := by decide +kernel
theorem dX9_stands_66 : decode cX9_stands 66 = .ok (.iastore, 1) := by decide +kernel
theorem dX9_stands_67 : decode cX9_stands 67 = .ok (.return_, 1) := by decide +kernel
theorem dX9_straysNow_0 : decode cX9_straysNow 0 = .ok (.aload_n 0, 1) := by decide +kernel
theorem dX9_straysNow_1 : decode cX9_straysNow 1 = .ok (.iconst 2, 1) := by decide +kernel
theorem dX9_straysNow_2 : decode cX9_straysNow 2 = .ok (.invokevirtual 143, 3) := by decide +kernel
theorem dX9_straysNow_5 : decode cX9_straysNow 5 = .ok (.bipush 8, 2) := by decide +kernel
theorem dX9_straysNow_7 : decode cX9_straysNow 7 = .ok (.aload_n 0, 1) := by decide +kernel
theorem dX9_straysNow_8 : decode cX9_straysNow 8 = .ok (.bipush 7, 2) := by decide +kernel
theorem dX9_straysNow_10 : decode cX9_straysNow 10 = .ok (.invokevirtual 143, 3) := by decide +kernel
theorem dX9_straysNow_13 : decode cX9_straysNow 13 = .ok (.imul, 1) := by decide +kernel
theorem dX9_straysNow_14 : decode cX9_straysNow 14 = .ok (.isub, 1) := by decide +kernel
theorem dX9_straysNow_15 : decode cX9_straysNow 15 = .ok (.istore_n 1, 1) := by decide +kernel
theorem dX9_straysNow_16 : decode cX9_straysNow 16 = .ok (.aload_n 0, 1) := by decide +kernel
theorem dX9_straysNow_17 : decode cX9_straysNow 17 = .ok (.dup, 1) := by decide +kernel
theorem dX9_straysNow_18 : decode cX9_straysNow 18 = .ok (.getfield 165, 3) := by decide +kernel
theorem dX9_straysNow_21 : decode cX9_straysNow 21 = .ok (.iload_n 1, 1) := by decide +kernel
theorem dX9_straysNow_22 : decode cX9_straysNow 22 = .ok (.ifCond .le 7, 3) := by decide +kernel
theorem dX9_straysNow_25 : decode cX9_straysNow 25 = .ok (.iload_n 1, 1) := by decide +kernel
theorem dX9_straysNow_26 : decode cX9_straysNow 26 = .ok (.goto 4, 3) := by decide +kernel
theorem dX9_straysNow_29 : decode cX9_straysNow 29 = .ok (.iconst 0, 1) := by decide +kernel
theorem dX9_straysNow_30 : decode cX9_straysNow 30 = .ok (.iadd, 1) := by decide +kernel
theorem dX9_straysNow_31 : decode cX9_straysNow 31 = .ok (.putfield 165, 3) := by decide +kernel
theorem dX9_straysNow_34 : decode cX9_straysNow 34 = .ok (.aload_n 0, 1) := by decide +kernel
theorem dX9_straysNow_35 : decode cX9_straysNow 35 = .ok (.getfield 165, 3) := by decide +kernel
theorem dX9_straysNow_38 : decode cX9_straysNow 38 = .ok (.bipush 100, 2) := by decide +kernel
theorem dX9_straysNow_40 : decode cX9_straysNow 40 = .ok (.if_icmp .ge 5, 3) := by decide +kernel
theorem dX9_straysNow_43 : decode cX9_straysNow 43 = .ok (.iconst 0, 1) := by decide +kernel
theorem dX9_straysNow_44 : decode cX9_straysNow 44 = .ok (.ireturn, 1) := by decide +kernel
theorem dX9_straysNow_45 : decode cX9_straysNow 45 = .ok (.aload_n 0, 1) := by decide +kernel
theorem dX9_straysNow_46 : decode cX9_straysNow 46 = .ok (.dup, 1) := by decide +kernel
theorem dX9_straysNow_47 : decode cX9_straysNow 47 = .ok (.getfield 165, 3) := by decide +kernel
theorem dX9_straysNow_50 : decode cX9_straysNow 50 = .ok (.bipush 100, 2) := by decide +kernel
theorem dX9_straysNow_52 : decode cX9_straysNow 52 = .ok (.isub, 1) := by decide +kernel
theorem dX9_straysNow_53 : decode cX9_straysNow 53 = .ok (.putfield 165, 3) := by decide +kernel
theorem dX9_straysNow_56 : decode cX9_straysNow 56 = .ok (.iconst 1, 1) := by decide +kernel
theorem dX9_straysNow_57 : decode cX9_straysNow 57 = .ok (.ireturn, 1) := by decide +kernel
theorem dX9_comesOne_0 : decode cX9_comesOne 0 = .ok (.aload_n 0, 1) := by decide +kernel
theorem dX9_comesOne_1 : decode cX9_comesOne 1 = .ok (.invokevirtual 168, 3) := by decide +kernel
theorem dX9_comesOne_4 : decode cX9_comesOne 4 = .ok (.istore 4, 2) := by decide +kernel
theorem dX9_comesOne_6 : decode cX9_comesOne 6 = .ok (.aload_n 0, 1) := by decide +kernel
theorem dX9_comesOne_7 : decode cX9_comesOne 7 = .ok (.iload_n 1, 1) := by decide +kernel
theorem dX9_comesOne_8 : decode cX9_comesOne 8 = .ok (.iload_n 2, 1) := by decide +kernel
theorem dX9_comesOne_9 : decode cX9_comesOne 9 = .ok (.invokevirtual 171, 3) := by decide +kernel
theorem dX9_comesOne_12 : decode cX9_comesOne 12 = .ok (.istore 5, 2) := by decide +kernel
theorem dX9_comesOne_14 : decode cX9_comesOne 14 = .ok (.iload 5, 2) := by decide +kernel
theorem dX9_comesOne_16 : decode cX9_comesOne 16 = .ok (.ifCond .ge 14, 3) := by decide +kernel
theorem dX9_comesOne_19 : decode cX9_comesOne 19 = .ok (.aload_n 0, 1) := by decide +kernel
theorem dX9_comesOne_20 : decode cX9_comesOne 20 = .ok (.getfield 61, 3) := by decide +kernel
theorem dX9_comesOne_23 : decode cX9_comesOne 23 = .ok (.iload_n 1, 1) := by decide +kernel
theorem dX9_comesOne_24 : decode cX9_comesOne 24 = .ok (.dup2, 1) := by decide +kernel
theorem dX9_comesOne_25 : decode cX9_comesOne 25 = .ok (.iaload, 1) := by decide +kernel
theorem dX9_comesOne_26 : decode cX9_comesOne 26 = .ok (.iconst 1, 1) := by decide +kernel
theorem dX9_comesOne_27 : decode cX9_comesOne 27 = .ok (.iadd, 1) := by decide +kernel
theorem dX9_comesOne_28 : decode cX9_comesOne 28 = .ok (.iastore, 1) := by decide +kernel
theorem dX9_comesOne_29 : decode cX9_comesOne 29 = .ok (.return_, 1) := by decide +kernel
theorem dX9_comesOne_30 : decode cX9_comesOne 30 = .ok (.iload 5, 2) := by decide +kernel
theorem dX9_comesOne_32 : decode cX9_comesOne 32 = .ok (.iconst 1, 1) := by decide +kernel
theorem dX9_comesOne_33 : decode cX9_comesOne 33 = .ok (.iadd, 1) := by decide +kernel
theorem dX9_comesOne_34 : decode cX9_comesOne 34 = .ok (.aload_n 0, 1) := by decide +kernel
theorem dX9_comesOne_35 : decode cX9_comesOne 35 = .ok (.getfield 13, 3) := by decide +kernel
theorem dX9_comesOne_38 : decode cX9_comesOne 38 = .ok (.iconst 1, 1) := by decide +kernel
theorem dX9_comesOne_39 : decode cX9_comesOne 39 = .ok (.iaload, 1) := by decide +kernel
theorem dX9_comesOne_40 : decode cX9_comesOne 40 = .ok (.irem, 1) := by decide +kernel
theorem dX9_comesOne_41 : decode cX9_comesOne 41 = .ok (.istore 6, 2) := by decide +kernel
theorem dX9_comesOne_43 : decode cX9_comesOne 43 = .ok (.iload 4, 2) := by decide +kernel
theorem dX9_comesOne_45 : decode cX9_comesOne 45 = .ok (.ifCond .eq 48, 3) := by decide +kernel
theorem dX9_comesOne_48 : decode cX9_comesOne 48 = .ok (.iload 6, 2) := by decide +kernel
theorem dX9_comesOne_50 : decode cX9_comesOne 50 = .ok (.iload 5, 2) := by decide +kernel
theorem dX9_comesOne_52 : decode cX9_comesOne 52 = .ok (.if_icmp .eq 41, 3) := by decide +kernel
theorem dX9_comesOne_55 : decode cX9_comesOne 55 = .ok (.aload_n 0, 1) := by decide +kernel
theorem dX9_comesOne_56 : decode cX9_comesOne 56 = .ok (.getfield 43, 3) := by decide +kernel
theorem dX9_comesOne_59 : decode cX9_comesOne 59 = .ok (.iload 6, 2) := by decide +kernel
theorem dX9_comesOne_61 : decode cX9_comesOne 61 = .ok (.iaload, 1) := by decide +kernel
theorem dX9_comesOne_62 : decode cX9_comesOne 62 = .ok (.aload_n 0, 1) := by decide +kernel
theorem dX9_comesOne_63 : decode cX9_comesOne 63 = .ok (.iconst 5, 1) := by decide +kernel
theorem dX9_comesOne_64 : decode cX9_comesOne 64 = .ok (.invokevirtual 143, 3) := by decide +kernel
theorem dX9_comesOne_67 : decode cX9_comesOne 67 = .ok (.if_icmp .ge 26, 3) := by decide +kernel
theorem dX9_comesOne_70 : decode cX9_comesOne 70 = .ok (.aload_n 0, 1) := by decide +kernel
theorem dX9_comesOne_71 : decode cX9_comesOne 71 = .ok (.dup, 1) := by decide +kernel
theorem dX9_comesOne_72 : decode cX9_comesOne 72 = .ok (.getfield 174, 3) := by decide +kernel
theorem dX9_comesOne_75 : decode cX9_comesOne 75 = .ok (.iconst 1, 1) := by decide +kernel
theorem dX9_comesOne_76 : decode cX9_comesOne 76 = .ok (.iadd, 1) := by decide +kernel
theorem dX9_comesOne_77 : decode cX9_comesOne 77 = .ok (.putfield 174, 3) := by decide +kernel
theorem dX9_comesOne_80 : decode cX9_comesOne 80 = .ok (.aload_n 0, 1) := by decide +kernel
theorem dX9_comesOne_81 : decode cX9_comesOne 81 = .ok (.iload 6, 2) := by decide +kernel
theorem dX9_comesOne_83 : decode cX9_comesOne 83 = .ok (.iload_n 1, 1) := by decide +kernel
theorem dX9_comesOne_84 : decode cX9_comesOne 84 = .ok (.iload_n 2, 1) := by decide +kernel
theorem dX9_comesOne_85 : decode cX9_comesOne 85 = .ok (.iload_n 3, 1) := by decide +kernel
theorem dX9_comesOne_86 : decode cX9_comesOne 86 = .ok (.iconst 1, 1) := by decide +kernel
theorem dX9_comesOne_87 : decode cX9_comesOne 87 = .ok (.invokevirtual 177, 3) := by decide +kernel
theorem dX9_comesOne_90 : decode cX9_comesOne 90 = .ok (.goto 13, 3) := by decide +kernel
theorem dX9_comesOne_93 : decode cX9_comesOne 93 = .ok (.aload_n 0, 1) := by decide +kernel
theorem dX9_comesOne_94 : decode cX9_comesOne 94 = .ok (.iload 5, 2) := by decide +kernel
theorem dX9_comesOne_96 : decode cX9_comesOne 96 = .ok (.iload_n 1, 1) := by decide +kernel
theorem dX9_comesOne_97 : decode cX9_comesOne 97 = .ok (.iload_n 2, 1) := by decide +kernel
theorem dX9_comesOne_98 : decode cX9_comesOne 98 = .ok (.iload_n 3, 1) := by decide +kernel
theorem dX9_comesOne_99 : decode cX9_comesOne 99 = .ok (.iconst 0, 1) := by decide +kernel
theorem dX9_comesOne_100 : decode cX9_comesOne 100 = .ok (.invokevirtual 177, 3) := by decide +kernel
theorem dX9_comesOne_103 : decode cX9_comesOne 103 = .ok (.return_, 1) := by decide +kernel
theorem dX9_come__0 : decode cX9_come_ 0 = .ok (.iload_n 1, 1) := by decide +kernel
theorem dX9_come__1 : decode cX9_come_ 1 = .ok (.sipush 900, 3) := by decide +kernel
theorem dX9_come__4 : decode cX9_come_ 4 = .ok (.idiv, 1) := by decide +kernel
theorem dX9_come__5 : decode cX9_come_ 5 = .ok (.istore_n 2, 1) := by decide +kernel
theorem dX9_come__6 : decode cX9_come_ 6 = .ok (.iload_n 2, 1) := by decide +kernel
theorem dX9_come__7 : decode cX9_come_ 7 = .ok (.iconst 4, 1) := by decide +kernel
theorem dX9_come__8 : decode cX9_come_ 8 = .ok (.if_icmp .lt 4, 3) := by decide +kernel
theorem dX9_come__11 : decode cX9_come_ 11 = .ok (.return_, 1) := by decide +kernel
theorem dX9_come__12 : decode cX9_come_ 12 = .ok (.iconst 0, 1) := by decide +kernel
theorem dX9_come__13 : decode cX9_come_ 13 = .ok (.istore_n 3, 1) := by decide +kernel
theorem dX9_come__14 : decode cX9_come_ 14 = .ok (.iload_n 3, 1) := by decide +kernel
theorem dX9_come__15 : decode cX9_come_ 15 = .ok (.aload_n 0, 1) := by decide +kernel
theorem dX9_come__16 : decode cX9_come_ 16 = .ok (.getfield 13, 3) := by decide +kernel
theorem dX9_come__19 : decode cX9_come_ 19 = .ok (.iconst 0, 1) := by decide +kernel
theorem dX9_come__20 : decode cX9_come_ 20 = .ok (.iaload, 1) := by decide +kernel
theorem dX9_come__21 : decode cX9_come_ 21 = .ok (.if_icmp .ge 88, 3) := by decide +kernel
theorem dX9_come__24 : decode cX9_come_ 24 = .ok (.aload_n 0, 1) := by decide +kernel
theorem dX9_come__25 : decode cX9_come_ 25 = .ok (.iload_n 2, 1) := by decide +kernel
theorem dX9_come__26 : decode cX9_come_ 26 = .ok (.iload_n 3, 1) := by decide +kernel
theorem dX9_come__27 : decode cX9_come_ 27 = .ok (.invokevirtual 181, 3) := by decide +kernel
theorem dX9_come__30 : decode cX9_come_ 30 = .ok (.istore 4, 2) := by decide +kernel
theorem dX9_come__32 : decode cX9_come_ 32 = .ok (.iload_n 3, 1) := by decide +kernel
theorem dX9_come__33 : decode cX9_come_ 33 = .ok (.aload_n 0, 1) := by decide +kernel
theorem dX9_come__34 : decode cX9_come_ 34 = .ok (.getfield 184, 3) := by decide +kernel
theorem dX9_come__37 : decode cX9_come_ 37 = .ok (.if_icmp .ne 18, 3) := by decide +kernel
theorem dX9_come__40 : decode cX9_come_ 40 = .ok (.iload_n 2, 1) := by decide +kernel
theorem dX9_come__41 : decode cX9_come_ 41 = .ok (.aload_n 0, 1) := by decide +kernel
theorem dX9_come__42 : decode cX9_come_ 42 = .ok (.getfield 187, 3) := by decide +kernel
theorem dX9_come__45 : decode cX9_come_ 45 = .ok (.if_icmp .ne 10, 3) := by decide +kernel
theorem dX9_come__48 : decode cX9_come_ 48 = .ok (.aload_n 0, 1) := by decide +kernel
theorem dX9_come__49 : decode cX9_come_ 49 = .ok (.getfield 190, 3) := by decide +kernel
theorem dX9_come__52 : decode cX9_come_ 52 = .ok (.goto 8, 3) := by decide +kernel
theorem dX9_come__55 : decode cX9_come_ 55 = .ok (.aload_n 0, 1) := by decide +kernel
theorem dX9_come__56 : decode cX9_come_ 56 = .ok (.iload_n 3, 1) := by decide +kernel
theorem dX9_come__57 : decode cX9_come_ 57 = .ok (.invokevirtual 193, 3) := by decide +kernel
theorem dX9_come__60 : decode cX9_come_ 60 = .ok (.istore 5, 2) := by decide +kernel
theorem dX9_come__62 : decode cX9_come_ 62 = .ok (.iconst 0, 1) := by decide +kernel
theorem dX9_come__63 : decode cX9_come_ 63 = .ok (.istore 6, 2) := by decide +kernel
theorem dX9_come__65 : decode cX9_come_ 65 = .ok (.iload 6, 2) := by decide +kernel
theorem dX9_come__67 : decode cX9_come_ 67 = .ok (.iload 4, 2) := by decide +kernel
theorem dX9_come__69 : decode cX9_come_ 69 = .ok (.if_icmp .ge 34, 3) := by decide +kernel
theorem dX9_come__72 : decode cX9_come_ 72 = .ok (.iload 6, 2) := by decide +kernel
theorem dX9_come__74 : decode cX9_come_ 74 = .ok (.sipush 900, 3) := by decide +kernel
theorem dX9_come__77 : decode cX9_come_ 77 = .ok (.imul, 1) := by decide +kernel
theorem dX9_come__78 : decode cX9_come_ 78 = .ok (.iload 4, 2) := by decide +kernel
theorem dX9_come__80 : decode cX9_come_ 80 = .ok (.idiv, 1) := by decide +kernel
theorem dX9_come__81 : decode cX9_come_ 81 = .ok (.iload_n 1, 1) := by decide +kernel
theorem dX9_come__82 : decode cX9_come_ 82 = .ok (.sipush 900, 3) := by decide +kernel
theorem dX9_come__85 : decode cX9_come_ 85 = .ok (.irem, 1) := by decide +kernel
theorem dX9_come__86 : decode cX9_come_ 86 = .ok (.if_icmp .ne 11, 3) := by decide +kernel
theorem dX9_come__89 : decode cX9_come_ 89 = .ok (.aload_n 0, 1) := by decide +kernel
theorem dX9_come__90 : decode cX9_come_ 90 = .ok (.iload_n 3, 1) := by decide +kernel
theorem dX9_come__91 : decode cX9_come_ 91 = .ok (.iload_n 1, 1) := by decide +kernel
theorem dX9_come__92 : decode cX9_come_ 92 = .ok (.iload 5, 2) := by decide +kernel
theorem dX9_come__94 : decode cX9_come_ 94 = .ok (.invokevirtual 196, 3) := by decide +kernel
theorem dX9_come__97 : decode cX9_come_ 97 = .ok (.iinc 6 1, 3) := by decide +kernel
theorem dX9_come__100 : decode cX9_come_ 100 = .ok (.goto (-35), 3) := by decide +kernel
theorem dX9_come__103 : decode cX9_come_ 103 = .ok (.iinc 3 1, 3) := by decide +kernel
theorem dX9_come__106 : decode cX9_come_ 106 = .ok (.goto (-92), 3) := by decide +kernel
theorem dX9_come__109 : decode cX9_come_ 109 = .ok (.return_, 1) := by decide +kernel
theorem dX9_leaves_0 : decode cX9_leaves 0 = .ok (.bipush 60, 2) := by decide +kernel
theorem dX9_leaves_2 : decode cX9_leaves 2 = .ok (.iload_n 1, 1) := by decide +kernel
theorem dX9_leaves_3 : decode cX9_leaves 3 = .ok (.imul, 1) := by decide +kernel
theorem dX9_leaves_4 : decode cX9_leaves 4 = .ok (.istore_n 3, 1) := by decide +kernel
theorem dX9_leaves_5 : decode cX9_leaves 5 = .ok (.aload_n 0, 1) := by decide +kernel
theorem dX9_leaves_6 : decode cX9_leaves 6 = .ok (.getfield 52, 3) := by decide +kernel
theorem dX9_leaves_9 : decode cX9_leaves 9 = .ok (.aload_n 0, 1) := by decide +kernel
theorem dX9_leaves_10 : decode cX9_leaves 10 = .ok (.getfield 31, 3) := by decide +kernel
theorem dX9_leaves_13 : decode cX9_leaves 13 = .ok (.iload_n 3, 1) := by decide +kernel
theorem dX9_leaves_14 : decode cX9_leaves 14 = .ok (.iaload, 1) := by decide +kernel
theorem dX9_leaves_15 : decode cX9_leaves 15 = .ok (.dup2, 1) := by decide +kernel
theorem dX9_leaves_16 : decode cX9_leaves 16 = .ok (.iaload, 1) := by decide +kernel
theorem dX9_leaves_17 : decode cX9_leaves 17 = .ok (.iload_n 2, 1) := by decide +kernel
theorem dX9_leaves_18 : decode cX9_leaves 18 = .ok (.aload_n 0, 1) := by decide +kernel
theorem dX9_leaves_19 : decode cX9_leaves 19 = .ok (.getfield 46, 3) := by decide +kernel
theorem dX9_leaves_22 : decode cX9_leaves 22 = .ok (.iload_n 1, 1) := by decide +kernel
theorem dX9_leaves_23 : decode cX9_leaves 23 = .ok (.iaload, 1) := by decide +kernel
theorem dX9_leaves_24 : decode cX9_leaves 24 = .ok (.isub, 1) := by decide +kernel
theorem dX9_leaves_25 : decode cX9_leaves 25 = .ok (.iadd, 1) := by decide +kernel
theorem dX9_leaves_26 : decode cX9_leaves 26 = .ok (.iastore, 1) := by decide +kernel
theorem dX9_leaves_27 : decode cX9_leaves 27 = .ok (.aload_n 0, 1) := by decide +kernel
theorem dX9_leaves_28 : decode cX9_leaves 28 = .ok (.getfield 58, 3) := by decide +kernel
theorem dX9_leaves_31 : decode cX9_leaves 31 = .ok (.aload_n 0, 1) := by decide +kernel
theorem dX9_leaves_32 : decode cX9_leaves 32 = .ok (.getfield 31, 3) := by decide +kernel
theorem dX9_leaves_35 : decode cX9_leaves 35 = .ok (.iload_n 3, 1) := by decide +kernel
theorem dX9_leaves_36 : decode cX9_leaves 36 = .ok (.iaload, 1) := by decide +kernel
theorem dX9_leaves_37 : decode cX9_leaves 37 = .ok (.dup2, 1) := by decide +kernel
theorem dX9_leaves_38 : decode cX9_leaves 38 = .ok (.iaload, 1) := by decide +kernel
theorem dX9_leaves_39 : decode cX9_leaves 39 = .ok (.iconst 1, 1) := by decide +kernel
theorem dX9_leaves_40 : decode cX9_leaves 40 = .ok (.iadd, 1) := by decide +kernel
theorem dX9_leaves_41 : decode cX9_leaves 41 = .ok (.iastore, 1) := by decide +kernel
theorem dX9_leaves_42 : decode cX9_leaves 42 = .ok (.aload_n 0, 1) := by decide +kernel
theorem dX9_leaves_43 : decode cX9_leaves 43 = .ok (.getfield 67, 3) := by decide +kernel
theorem dX9_leaves_46 : decode cX9_leaves 46 = .ok (.iload_n 1, 1) := by decide +kernel
theorem dX9_leaves_47 : decode cX9_leaves 47 = .ok (.dup2, 1) := by decide +kernel
theorem dX9_leaves_48 : decode cX9_leaves 48 = .ok (.iaload, 1) := by decide +kernel
theorem dX9_leaves_49 : decode cX9_leaves 49 = .ok (.iconst 1, 1) := by decide +kernel
theorem dX9_leaves_50 : decode cX9_leaves 50 = .ok (.iadd, 1) := by decide +kernel
theorem dX9_leaves_51 : decode cX9_leaves 51 = .ok (.iastore, 1) := by decide +kernel
theorem dX9_leaves_52 : decode cX9_leaves 52 = .ok (.aload_n 0, 1) := by decide +kernel
theorem dX9_leaves_53 : decode cX9_leaves 53 = .ok (.iload_n 2, 1) := by decide +kernel
theorem dX9_leaves_54 : decode cX9_leaves 54 = .ok (.putfield 200, 3) := by decide +kernel
theorem dX9_leaves_57 : decode cX9_leaves 57 = .ok (.aload_n 0, 1) := by decide +kernel
theorem dX9_leaves_58 : decode cX9_leaves 58 = .ok (.getfield 43, 3) := by decide +kernel
theorem dX9_leaves_61 : decode cX9_leaves 61 = .ok (.iload_n 1, 1) := by decide +kernel
theorem dX9_leaves_62 : decode cX9_leaves 62 = .ok (.dup2, 1) := by decide +kernel
theorem dX9_leaves_63 : decode cX9_leaves 63 = .ok (.iaload, 1) := by decide +kernel
theorem dX9_leaves_64 : decode cX9_leaves 64 = .ok (.iconst 1, 1) := by decide +kernel
theorem dX9_leaves_65 : decode cX9_leaves 65 = .ok (.isub, 1) := by decide +kernel
theorem dX9_leaves_66 : decode cX9_leaves 66 = .ok (.iastore, 1) := by decide +kernel
theorem dX9_leaves_67 : decode cX9_leaves 67 = .ok (.iconst 0, 1) := by decide +kernel
theorem dX9_leaves_68 : decode cX9_leaves 68 = .ok (.istore 4, 2) := by decide +kernel
theorem dX9_leaves_70 : decode cX9_leaves 70 = .ok (.iload 4, 2) := by decide +kernel
theorem dX9_leaves_72 : decode cX9_leaves 72 = .ok (.aload_n 0, 1) := by decide +kernel
theorem dX9_leaves_73 : decode cX9_leaves 73 = .ok (.getfield 43, 3) := by decide +kernel
theorem dX9_leaves_76 : decode cX9_leaves 76 = .ok (.iload_n 1, 1) := by decide +kernel
theorem dX9_leaves_77 : decode cX9_leaves 77 = .ok (.iaload, 1) := by decide +kernel
theorem dX9_leaves_78 : decode cX9_leaves 78 = .ok (.if_icmp .ge 89, 3) := by decide +kernel
theorem dX9_leaves_81 : decode cX9_leaves 81 = .ok (.aload_n 0, 1) := by decide +kernel
theorem dX9_leaves_82 : decode cX9_leaves 82 = .ok (.getfield 31, 3) := by decide +kernel
theorem dX9_leaves_85 : decode cX9_leaves 85 = .ok (.iload_n 3, 1) := by decide +kernel
theorem dX9_leaves_86 : decode cX9_leaves 86 = .ok (.iload 4, 2) := by decide +kernel
theorem dX9_leaves_88 : decode cX9_leaves 88 = .ok (.iadd, 1) := by decide +kernel
theorem dX9_leaves_89 : decode cX9_leaves 89 = .ok (.aload_n 0, 1) := by decide +kernel
theorem dX9_leaves_90 : decode cX9_leaves 90 = .ok (.getfield 31, 3) := by decide +kernel
theorem dX9_leaves_93 : decode cX9_leaves 93 = .ok (.iload_n 3, 1) := by decide +kernel
theorem dX9_leaves_94 : decode cX9_leaves 94 = .ok (.iload 4, 2) := by decide +kernel
theorem dX9_leaves_96 : decode cX9_leaves 96 = .ok (.iadd, 1) := by decide +kernel
theorem dX9_leaves_97 : decode cX9_leaves 97 = .ok (.iconst 1, 1) := by decide +kernel
theorem dX9_leaves_98 : decode cX9_leaves 98 = .ok (.iadd, 1) := by decide +kernel
theorem dX9_leaves_99 : decode cX9_leaves 99 = .ok (.iaload, 1) := by decide +kernel
theorem dX9_leaves_100 : decode cX9_leaves 100 = .ok (.iastore, 1) := by decide +kernel
theorem dX9_leaves_101 : decode cX9_leaves 101 = .ok (.aload_n 0, 1) := by decide +kernel
theorem dX9_leaves_102 : decode cX9_leaves 102 = .ok (.getfield 34, 3) := by decide +kernel
theorem dX9_leaves_105 : decode cX9_leaves 105 = .ok (.iload_n 3, 1) := by decide +kernel
theorem dX9_leaves_106 : decode cX9_leaves 106 = .ok (.iload 4, 2) := by decide +kernel
theorem dX9_leaves_108 : decode cX9_leaves 108 = .ok (.iadd, 1) := by decide +kernel
theorem dX9_leaves_109 : decode cX9_leaves 109 = .ok (.aload_n 0, 1) := by decide +kernel
theorem dX9_leaves_110 : decode cX9_leaves 110 = .ok (.getfield 34, 3) := by decide +kernel
theorem dX9_leaves_113 : decode cX9_leaves 113 = .ok (.iload_n 3, 1) := by decide +kernel
theorem dX9_leaves_114 : decode cX9_leaves 114 = .ok (.iload 4, 2) := by decide +kernel
theorem dX9_leaves_116 : decode cX9_leaves 116 = .ok (.iadd, 1) := by decide +kernel
theorem dX9_leaves_117 : decode cX9_leaves 117 = .ok (.iconst 1, 1) := by decide +kernel
theorem dX9_leaves_118 : decode cX9_leaves 118 = .ok (.iadd, 1) := by decide +kernel
theorem dX9_leaves_119 : decode cX9_leaves 119 = .ok (.iaload, 1) := by decide +kernel
theorem dX9_leaves_120 : decode cX9_leaves 120 = .ok (.iastore, 1) := by decide +kernel
theorem dX9_leaves_121 : decode cX9_leaves 121 = .ok (.aload_n 0, 1) := by decide +kernel
theorem dX9_leaves_122 : decode cX9_leaves 122 = .ok (.getfield 37, 3) := by decide +kernel
theorem dX9_leaves_125 : decode cX9_leaves 125 = .ok (.iload_n 3, 1) := by decide +kernel
theorem dX9_leaves_126 : decode cX9_leaves 126 = .ok (.iload 4, 2) := by decide +kernel
theorem dX9_leaves_128 : decode cX9_leaves 128 = .ok (.iadd, 1) := by decide +kernel
theorem dX9_leaves_129 : decode cX9_leaves 129 = .ok (.aload_n 0, 1) := by decide +kernel
theorem dX9_leaves_130 : decode cX9_leaves 130 = .ok (.getfield 37, 3) := by decide +kernel
theorem dX9_leaves_133 : decode cX9_leaves 133 = .ok (.iload_n 3, 1) := by decide +kernel
theorem dX9_leaves_134 : decode cX9_leaves 134 = .ok (.iload 4, 2) := by decide +kernel
theorem dX9_leaves_136 : decode cX9_leaves 136 = .ok (.iadd, 1) := by decide +kernel
theorem dX9_leaves_137 : decode cX9_leaves 137 = .ok (.iconst 1, 1) := by decide +kernel
theorem dX9_leaves_138 : decode cX9_leaves 138 = .ok (.iadd, 1) := by decide +kernel
theorem dX9_leaves_139 : decode cX9_leaves 139 = .ok (.iaload, 1) := by decide +kernel
theorem dX9_leaves_140 : decode cX9_leaves 140 = .ok (.iastore, 1) := by decide +kernel
theorem dX9_leaves_141 : decode cX9_leaves 141 = .ok (.aload_n 0, 1) := by decide +kernel
theorem dX9_leaves_142 : decode cX9_leaves 142 = .ok (.getfield 40, 3) := by decide +kernel
theorem dX9_leaves_145 : decode cX9_leaves 145 = .ok (.iload_n 3, 1) := by decide +kernel
theorem dX9_leaves_146 : decode cX9_leaves 146 = .ok (.iload 4, 2) := by decide +kernel
theorem dX9_leaves_148 : decode cX9_leaves 148 = .ok (.iadd, 1) := by decide +kernel
theorem dX9_leaves_149 : decode cX9_leaves 149 = .ok (.aload_n 0, 1) := by decide +kernel
theorem dX9_leaves_150 : decode cX9_leaves 150 = .ok (.getfield 40, 3) := by decide +kernel
theorem dX9_leaves_153 : decode cX9_leaves 153 = .ok (.iload_n 3, 1) := by decide +kernel
theorem dX9_leaves_154 : decode cX9_leaves 154 = .ok (.iload 4, 2) := by decide +kernel
theorem dX9_leaves_156 : decode cX9_leaves 156 = .ok (.iadd, 1) := by decide +kernel
theorem dX9_leaves_157 : decode cX9_leaves 157 = .ok (.iconst 1, 1) := by decide +kernel
theorem dX9_leaves_158 : decode cX9_leaves 158 = .ok (.iadd, 1) := by decide +kernel
theorem dX9_leaves_159 : decode cX9_leaves 159 = .ok (.iaload, 1) := by decide +kernel
theorem dX9_leaves_160 : decode cX9_leaves 160 = .ok (.iastore, 1) := by decide +kernel
theorem dX9_leaves_161 : decode cX9_leaves 161 = .ok (.iinc 4 1, 3) := by decide +kernel
theorem dX9_leaves_164 : decode cX9_leaves 164 = .ok (.goto (-94), 3) := by decide +kernel
theorem dX9_leaves_167 : decode cX9_leaves 167 = .ok (.aload_n 0, 1) := by decide +kernel
theorem dX9_leaves_168 : decode cX9_leaves 168 = .ok (.getfield 46, 3) := by decide +kernel
theorem dX9_leaves_171 : decode cX9_leaves 171 = .ok (.iload_n 1, 1) := by decide +kernel
theorem dX9_leaves_172 : decode cX9_leaves 172 = .ok (.bipush (-9), 2) := by decide +kernel
theorem dX9_leaves_174 : decode cX9_leaves 174 = .ok (.iastore, 1) := by decide +kernel
theorem dX9_leaves_175 : decode cX9_leaves 175 = .ok (.return_, 1) := by decide +kernel
theorem dX9_serves_0 : decode cX9_serves 0 = .ok (.bipush 60, 2) := by decide +kernel
theorem dX9_serves_2 : decode cX9_serves 2 = .ok (.iload_n 1, 1) := by decide +kernel
theorem dX9_serves_3 : decode cX9_serves 3 = .ok (.imul, 1) := by decide +kernel
theorem dX9_serves_4 : decode cX9_serves 4 = .ok (.istore_n 3, 1) := by decide +kernel
theorem dX9_serves_5 : decode cX9_serves 5 = .ok (.aload_n 0, 1) := by decide +kernel
theorem dX9_serves_6 : decode cX9_serves 6 = .ok (.getfield 31, 3) := by decide +kernel
theorem dX9_serves_9 : decode cX9_serves 9 = .ok (.iload_n 3, 1) := by decide +kernel
theorem dX9_serves_10 : decode cX9_serves 10 = .ok (.iaload, 1) := by decide +kernel
theorem dX9_serves_11 : decode cX9_serves 11 = .ok (.istore 4, 2) := by decide +kernel
theorem dX9_serves_13 : decode cX9_serves 13 = .ok (.aload_n 0, 1) := by decide +kernel
theorem dX9_serves_14 : decode cX9_serves 14 = .ok (.getfield 37, 3) := by decide +kernel
theorem dX9_serves_17 : decode cX9_serves 17 = .ok (.iload_n 3, 1) := by decide +kernel
theorem dX9_serves_18 : decode cX9_serves 18 = .ok (.iaload, 1) := by decide +kernel
theorem dX9_serves_19 : decode cX9_serves 19 = .ok (.aload_n 0, 1) := by decide +kernel
theorem dX9_serves_20 : decode cX9_serves 20 = .ok (.getfield 49, 3) := by decide +kernel
theorem dX9_serves_23 : decode cX9_serves 23 = .ok (.iload_n 1, 1) := by decide +kernel
theorem dX9_serves_24 : decode cX9_serves 24 = .ok (.iaload, 1) := by decide +kernel
theorem dX9_serves_25 : decode cX9_serves 25 = .ok (.ifCond .lt 22, 3) := by decide +kernel
theorem dX9_serves_28 : decode cX9_serves 28 = .ok (.aload_n 0, 1) := by decide +kernel
theorem dX9_serves_29 : decode cX9_serves 29 = .ok (.getfield 49, 3) := by decide +kernel
theorem dX9_serves_32 : decode cX9_serves 32 = .ok (.iload_n 1, 1) := by decide +kernel
theorem dX9_serves_33 : decode cX9_serves 33 = .ok (.iaload, 1) := by decide +kernel
theorem dX9_serves_34 : decode cX9_serves 34 = .ok (.iload 4, 2) := by decide +kernel
theorem dX9_serves_36 : decode cX9_serves 36 = .ok (.if_icmp .eq 11, 3) := by decide +kernel
theorem dX9_serves_39 : decode cX9_serves 39 = .ok (.aload_n 0, 1) := by decide +kernel
theorem dX9_serves_40 : decode cX9_serves 40 = .ok (.iconst 0, 1) := by decide +kernel
theorem dX9_serves_41 : decode cX9_serves 41 = .ok (.invokevirtual 143, 3) := by decide +kernel
theorem dX9_serves_44 : decode cX9_serves 44 = .ok (.goto 4, 3) := by decide +kernel
theorem dX9_serves_47 : decode cX9_serves 47 = .ok (.iconst 0, 1) := by decide +kernel
theorem dX9_serves_48 : decode cX9_serves 48 = .ok (.iadd, 1) := by decide +kernel
theorem dX9_serves_49 : decode cX9_serves 49 = .ok (.istore 5, 2) := by decide +kernel
theorem dX9_serves_51 : decode cX9_serves 51 = .ok (.aload_n 0, 1) := by decide +kernel
theorem dX9_serves_52 : decode cX9_serves 52 = .ok (.getfield 40, 3) := by decide +kernel
theorem dX9_serves_55 : decode cX9_serves 55 = .ok (.iload_n 3, 1) := by decide +kernel
theorem dX9_serves_56 : decode cX9_serves 56 = .ok (.iaload, 1) := by decide +kernel
theorem dX9_serves_57 : decode cX9_serves 57 = .ok (.iconst 1, 1) := by decide +kernel
theorem dX9_serves_58 : decode cX9_serves 58 = .ok (.if_icmp .ne 27, 3) := by decide +kernel
theorem dX9_serves_61 : decode cX9_serves 61 = .ok (.aload_n 0, 1) := by decide +kernel
theorem dX9_serves_62 : decode cX9_serves 62 = .ok (.iload_n 1, 1) := by decide +kernel
theorem dX9_serves_63 : decode cX9_serves 63 = .ok (.iload_n 2, 1) := by decide +kernel
theorem dX9_serves_64 : decode cX9_serves 64 = .ok (.invokevirtual 146, 3) := by decide +kernel
theorem dX9_serves_67 : decode cX9_serves 67 = .ok (.iload 4, 2) := by decide +kernel
theorem dX9_serves_69 : decode cX9_serves 69 = .ok (.ishr, 1) := by decide +kernel
theorem dX9_serves_70 : decode cX9_serves 70 = .ok (.iconst 1, 1) := by decide +kernel
theorem dX9_serves_71 : decode cX9_serves 71 = .ok (.iand, 1) := by decide +kernel
theorem dX9_serves_72 : decode cX9_serves 72 = .ok (.ifCond .ne 13, 3) := by decide +kernel
theorem dX9_serves_75 : decode cX9_serves 75 = .ok (.iload 5, 2) := by decide +kernel
theorem dX9_serves_77 : decode cX9_serves 77 = .ok (.aload_n 0, 1) := by decide +kernel
theorem dX9_serves_78 : decode cX9_serves 78 = .ok (.iconst 3, 1) := by decide +kernel
theorem dX9_serves_79 : decode cX9_serves 79 = .ok (.invokevirtual 143, 3) := by decide +kernel
theorem dX9_serves_82 : decode cX9_serves 82 = .ok (.iadd, 1) := by decide +kernel
theorem dX9_serves_83 : decode cX9_serves 83 = .ok (.istore 5, 2) := by decide +kernel
theorem dX9_serves_85 : decode cX9_serves 85 = .ok (.aload_n 0, 1) := by decide +kernel
theorem dX9_serves_86 : decode cX9_serves 86 = .ok (.getfield 52, 3) := by decide +kernel
theorem dX9_serves_89 : decode cX9_serves 89 = .ok (.iload 4, 2) := by decide +kernel
theorem dX9_serves_91 : decode cX9_serves 91 = .ok (.dup2, 1) := by decide +kernel
theorem dX9_serves_92 : decode cX9_serves 92 = .ok (.iaload, 1) := by decide +kernel
theorem dX9_serves_93 : decode cX9_serves 93 = .ok (.iload_n 2, 1) := by decide +kernel
theorem dX9_serves_94 : decode cX9_serves 94 = .ok (.aload_n 0, 1) := by decide +kernel
theorem dX9_serves_95 : decode cX9_serves 95 = .ok (.getfield 34, 3) := by decide +kernel
theorem dX9_serves_98 : decode cX9_serves 98 = .ok (.iload_n 3, 1) := by decide +kernel
theorem dX9_serves_99 : decode cX9_serves 99 = .ok (.iaload, 1) := by decide +kernel
theorem dX9_serves_100 : decode cX9_serves 100 = .ok (.isub, 1) := by decide +kernel
theorem dX9_serves_101 : decode cX9_serves 101 = .ok (.iadd, 1) := by decide +kernel
theorem dX9_serves_102 : decode cX9_serves 102 = .ok (.iastore, 1) := by decide +kernel
theorem dX9_serves_103 : decode cX9_serves 103 = .ok (.aload_n 0, 1) := by decide +kernel
theorem dX9_serves_104 : decode cX9_serves 104 = .ok (.getfield 46, 3) := by decide +kernel
theorem dX9_serves_107 : decode cX9_serves 107 = .ok (.iload_n 1, 1) := by decide +kernel
theorem dX9_serves_108 : decode cX9_serves 108 = .ok (.iload_n 2, 1) := by decide +kernel
theorem dX9_serves_109 : decode cX9_serves 109 = .ok (.iload 5, 2) := by decide +kernel
theorem dX9_serves_111 : decode cX9_serves 111 = .ok (.iadd, 1) := by decide +kernel
theorem dX9_serves_112 : decode cX9_serves 112 = .ok (.iastore, 1) := by decide +kernel
theorem dX9_serves_113 : decode cX9_serves 113 = .ok (.aload_n 0, 1) := by decide +kernel
theorem dX9_serves_114 : decode cX9_serves 114 = .ok (.getfield 49, 3) := by decide +kernel
theorem dX9_serves_117 : decode cX9_serves 117 = .ok (.iload_n 1, 1) := by decide +kernel
theorem dX9_serves_118 : decode cX9_serves 118 = .ok (.iload 4, 2) := by decide +kernel
theorem dX9_serves_120 : decode cX9_serves 120 = .ok (.iastore, 1) := by decide +kernel
theorem dX9_serves_121 : decode cX9_serves 121 = .ok (.return_, 1) := by decide +kernel
theorem dX9_second_0 : decode cX9_second 0 = .ok (.aload_n 0, 1) := by decide +kernel
theorem dX9_second_1 : decode cX9_second 1 = .ok (.iload_n 1, 1) := by decide +kernel
theorem dX9_second_2 : decode cX9_second 2 = .ok (.invokevirtual 203, 3) := by decide +kernel
theorem dX9_second_5 : decode cX9_second 5 = .ok (.iconst 0, 1) := by decide +kernel
theorem dX9_second_6 : decode cX9_second 6 = .ok (.istore_n 2, 1) := by decide +kernel
theorem dX9_second_7 : decode cX9_second 7 = .ok (.iload_n 2, 1) := by decide +kernel
theorem dX9_second_8 : decode cX9_second 8 = .ok (.aload_n 0, 1) := by decide +kernel
theorem dX9_second_9 : decode cX9_second 9 = .ok (.getfield 13, 3) := by decide +kernel
theorem dX9_second_12 : decode cX9_second 12 = .ok (.iconst 1, 1) := by decide +kernel
theorem dX9_second_13 : decode cX9_second 13 = .ok (.iaload, 1) := by decide +kernel
theorem dX9_second_14 : decode cX9_second 14 = .ok (.if_icmp .ge 124, 3) := by decide +kernel
theorem dX9_second_17 : decode cX9_second 17 = .ok (.aload_n 0, 1) := by decide +kernel
theorem dX9_second_18 : decode cX9_second 18 = .ok (.getfield 43, 3) := by decide +kernel
theorem dX9_second_21 : decode cX9_second 21 = .ok (.iload_n 2, 1) := by decide +kernel
theorem dX9_second_22 : decode cX9_second 22 = .ok (.iaload, 1) := by decide +kernel
theorem dX9_second_23 : decode cX9_second 23 = .ok (.ifCond .le 49, 3) := by decide +kernel
theorem dX9_second_26 : decode cX9_second 26 = .ok (.aload_n 0, 1) := by decide +kernel
theorem dX9_second_27 : decode cX9_second 27 = .ok (.getfield 46, 3) := by decide +kernel
theorem dX9_second_30 : decode cX9_second 30 = .ok (.iload_n 2, 1) := by decide +kernel
theorem dX9_second_31 : decode cX9_second 31 = .ok (.iaload, 1) := by decide +kernel
theorem dX9_second_32 : decode cX9_second 32 = .ok (.ifCond .lt 40, 3) := by decide +kernel
theorem dX9_second_35 : decode cX9_second 35 = .ok (.aload_n 0, 1) := by decide +kernel
theorem dX9_second_36 : decode cX9_second 36 = .ok (.getfield 46, 3) := by decide +kernel
theorem dX9_second_39 : decode cX9_second 39 = .ok (.iload_n 2, 1) := by decide +kernel
theorem dX9_second_40 : decode cX9_second 40 = .ok (.iaload, 1) := by decide +kernel
theorem dX9_second_41 : decode cX9_second 41 = .ok (.iload_n 1, 1) := by decide +kernel
theorem dX9_second_42 : decode cX9_second 42 = .ok (.if_icmp .gt 30, 3) := by decide +kernel
theorem dX9_second_45 : decode cX9_second 45 = .ok (.aload_n 0, 1) := by decide +kernel
theorem dX9_second_46 : decode cX9_second 46 = .ok (.getfield 200, 3) := by decide +kernel
theorem dX9_second_49 : decode cX9_second 49 = .ok (.ifCond .lt 17, 3) := by decide +kernel
theorem dX9_second_52 : decode cX9_second 52 = .ok (.iload_n 1, 1) := by decide +kernel
theorem dX9_second_53 : decode cX9_second 53 = .ok (.aload_n 0, 1) := by decide +kernel
theorem dX9_second_54 : decode cX9_second 54 = .ok (.getfield 200, 3) := by decide +kernel
theorem dX9_second_57 : decode cX9_second 57 = .ok (.isub, 1) := by decide +kernel
theorem dX9_second_58 : decode cX9_second 58 = .ok (.aload_n 0, 1) := by decide +kernel
theorem dX9_second_59 : decode cX9_second 59 = .ok (.iconst 1, 1) := by decide +kernel
theorem dX9_second_60 : decode cX9_second 60 = .ok (.invokevirtual 143, 3) := by decide +kernel
theorem dX9_second_63 : decode cX9_second 63 = .ok (.if_icmp .lt 9, 3) := by decide +kernel
theorem dX9_second_66 : decode cX9_second 66 = .ok (.aload_n 0, 1) := by decide +kernel
theorem dX9_second_67 : decode cX9_second 67 = .ok (.iload_n 2, 1) := by decide +kernel
theorem dX9_second_68 : decode cX9_second 68 = .ok (.iload_n 1, 1) := by decide +kernel
theorem dX9_second_69 : decode cX9_second 69 = .ok (.invokevirtual 207, 3) := by decide +kernel
theorem dX9_second_72 : decode cX9_second 72 = .ok (.aload_n 0, 1) := by decide +kernel
theorem dX9_second_73 : decode cX9_second 73 = .ok (.getfield 43, 3) := by decide +kernel
theorem dX9_second_76 : decode cX9_second 76 = .ok (.iload_n 2, 1) := by decide +kernel
theorem dX9_second_77 : decode cX9_second 77 = .ok (.iaload, 1) := by decide +kernel
theorem dX9_second_78 : decode cX9_second 78 = .ok (.ifCond .le 18, 3) := by decide +kernel
theorem dX9_second_81 : decode cX9_second 81 = .ok (.aload_n 0, 1) := by decide +kernel
theorem dX9_second_82 : decode cX9_second 82 = .ok (.getfield 46, 3) := by decide +kernel
theorem dX9_second_85 : decode cX9_second 85 = .ok (.iload_n 2, 1) := by decide +kernel
theorem dX9_second_86 : decode cX9_second 86 = .ok (.iaload, 1) := by decide +kernel
theorem dX9_second_87 : decode cX9_second 87 = .ok (.ifCond .ge 9, 3) := by decide +kernel
theorem dX9_second_90 : decode cX9_second 90 = .ok (.aload_n 0, 1) := by decide +kernel
theorem dX9_second_91 : decode cX9_second 91 = .ok (.iload_n 2, 1) := by decide +kernel
theorem dX9_second_92 : decode cX9_second 92 = .ok (.iload_n 1, 1) := by decide +kernel
theorem dX9_second_93 : decode cX9_second 93 = .ok (.invokevirtual 211, 3) := by decide +kernel
theorem dX9_second_96 : decode cX9_second 96 = .ok (.aload_n 0, 1) := by decide +kernel
theorem dX9_second_97 : decode cX9_second 97 = .ok (.getfield 64, 3) := by decide +kernel
theorem dX9_second_100 : decode cX9_second 100 = .ok (.iload_n 2, 1) := by decide +kernel
theorem dX9_second_101 : decode cX9_second 101 = .ok (.aload_n 0, 1) := by decide +kernel
theorem dX9_second_102 : decode cX9_second 102 = .ok (.getfield 43, 3) := by decide +kernel
theorem dX9_second_105 : decode cX9_second 105 = .ok (.iload_n 2, 1) := by decide +kernel
theorem dX9_second_106 : decode cX9_second 106 = .ok (.iaload, 1) := by decide +kernel
theorem dX9_second_107 : decode cX9_second 107 = .ok (.aload_n 0, 1) := by decide +kernel
theorem dX9_second_108 : decode cX9_second 108 = .ok (.getfield 64, 3) := by decide +kernel
theorem dX9_second_111 : decode cX9_second 111 = .ok (.iload_n 2, 1) := by decide +kernel
theorem dX9_second_112 : decode cX9_second 112 = .ok (.iaload, 1) := by decide +kernel
theorem dX9_second_113 : decode cX9_second 113 = .ok (.if_icmp .le 12, 3) := by decide +kernel
theorem dX9_second_116 : decode cX9_second 116 = .ok (.aload_n 0, 1) := by decide +kernel
theorem dX9_second_117 : decode cX9_second 117 = .ok (.getfield 43, 3) := by decide +kernel
theorem dX9_second_120 : decode cX9_second 120 = .ok (.iload_n 2, 1) := by decide +kernel
theorem dX9_second_121 : decode cX9_second 121 = .ok (.iaload, 1) := by decide +kernel
theorem dX9_second_122 : decode cX9_second 122 = .ok (.goto 9, 3) := by decide +kernel
theorem dX9_second_125 : decode cX9_second 125 = .ok (.aload_n 0, 1) := by decide +kernel
theorem dX9_second_126 : decode cX9_second 126 = .ok (.getfield 64, 3) := by decide +kernel
theorem dX9_second_129 : decode cX9_second 129 = .ok (.iload_n 2, 1) := by decide +kernel
theorem dX9_second_130 : decode cX9_second 130 = .ok (.iaload, 1) := by decide +kernel
theorem dX9_second_131 : decode cX9_second 131 = .ok (.iastore, 1) := by decide +kernel
theorem dX9_second_132 : decode cX9_second 132 = .ok (.iinc 2 1, 3) := by decide +kernel
theorem dX9_second_135 : decode cX9_second 135 = .ok (.goto (-128), 3) := by decide +kernel
theorem dX9_second_138 : decode cX9_second 138 = .ok (.return_, 1) := by decide +kernel
theorem dX9_ends_0 : decode cX9_ends 0 = .ok (.iconst 0, 1) := by decide +kernel
theorem dX9_ends_1 : decode cX9_ends 1 = .ok (.istore_n 1, 1) := by decide +kernel
theorem dX9_ends_2 : decode cX9_ends 2 = .ok (.iload_n 1, 1) := by decide +kernel
theorem dX9_ends_3 : decode cX9_ends 3 = .ok (.aload_n 0, 1) := by decide +kernel
theorem dX9_ends_4 : decode cX9_ends 4 = .ok (.getfield 13, 3) := by decide +kernel
theorem dX9_ends_7 : decode cX9_ends 7 = .ok (.iconst 1, 1) := by decide +kernel
theorem dX9_ends_8 : decode cX9_ends 8 = .ok (.iaload, 1) := by decide +kernel
theorem dX9_ends_9 : decode cX9_ends 9 = .ok (.if_icmp .ge 110, 3) := by decide +kernel
theorem dX9_ends_12 : decode cX9_ends 12 = .ok (.iconst 0, 1) := by decide +kernel
theorem dX9_ends_13 : decode cX9_ends 13 = .ok (.istore_n 2, 1) := by decide +kernel
theorem dX9_ends_14 : decode cX9_ends 14 = .ok (.iload_n 2, 1) := by decide +kernel
theorem dX9_ends_15 : decode cX9_ends 15 = .ok (.aload_n 0, 1) := by decide +kernel
theorem dX9_ends_16 : decode cX9_ends 16 = .ok (.getfield 43, 3) := by decide +kernel
theorem dX9_ends_19 : decode cX9_ends 19 = .ok (.iload_n 1, 1) := by decide +kernel
theorem dX9_ends_20 : decode cX9_ends 20 = .ok (.iaload, 1) := by decide +kernel
theorem dX9_ends_21 : decode cX9_ends 21 = .ok (.if_icmp .ge 92, 3) := by decide +kernel
theorem dX9_ends_24 : decode cX9_ends 24 = .ok (.aload_n 0, 1) := by decide +kernel
theorem dX9_ends_25 : decode cX9_ends 25 = .ok (.getfield 31, 3) := by decide +kernel
theorem dX9_ends_28 : decode cX9_ends 28 = .ok (.bipush 60, 2) := by decide +kernel
theorem dX9_ends_30 : decode cX9_ends 30 = .ok (.iload_n 1, 1) := by decide +kernel
theorem dX9_ends_31 : decode cX9_ends 31 = .ok (.imul, 1) := by decide +kernel
theorem dX9_ends_32 : decode cX9_ends 32 = .ok (.iload_n 2, 1) := by decide +kernel
theorem dX9_ends_33 : decode cX9_ends 33 = .ok (.iadd, 1) := by decide +kernel
theorem dX9_ends_34 : decode cX9_ends 34 = .ok (.iaload, 1) := by decide +kernel
theorem dX9_ends_35 : decode cX9_ends 35 = .ok (.istore_n 3, 1) := by decide +kernel
theorem dX9_ends_36 : decode cX9_ends 36 = .ok (.iload_n 2, 1) := by decide +kernel
theorem dX9_ends_37 : decode cX9_ends 37 = .ok (.ifCond .gt 12, 3) := by decide +kernel
theorem dX9_ends_40 : decode cX9_ends 40 = .ok (.aload_n 0, 1) := by decide +kernel
theorem dX9_ends_41 : decode cX9_ends 41 = .ok (.getfield 46, 3) := by decide +kernel
theorem dX9_ends_44 : decode cX9_ends 44 = .ok (.iload_n 1, 1) := by decide +kernel
theorem dX9_ends_45 : decode cX9_ends 45 = .ok (.iaload, 1) := by decide +kernel
theorem dX9_ends_46 : decode cX9_ends 46 = .ok (.ifCond .ge 30, 3) := by decide +kernel
theorem dX9_ends_49 : decode cX9_ends 49 = .ok (.aload_n 0, 1) := by decide +kernel
theorem dX9_ends_50 : decode cX9_ends 50 = .ok (.getfield 52, 3) := by decide +kernel
theorem dX9_ends_53 : decode cX9_ends 53 = .ok (.iload_n 3, 1) := by decide +kernel
theorem dX9_ends_54 : decode cX9_ends 54 = .ok (.dup2, 1) := by decide +kernel
theorem dX9_ends_55 : decode cX9_ends 55 = .ok (.iaload, 1) := by decide +kernel
theorem dX9_ends_56 : decode cX9_ends 56 = .ok (.sipush 7200, 3) := by decide +kernel
theorem dX9_ends_59 : decode cX9_ends 59 = .ok (.aload_n 0, 1) := by decide +kernel
theorem dX9_ends_60 : decode cX9_ends 60 = .ok (.getfield 34, 3) := by decide +kernel
theorem dX9_ends_63 : decode cX9_ends 63 = .ok (.bipush 60, 2) := by decide +kernel
theorem dX9_ends_65 : decode cX9_ends 65 = .ok (.iload_n 1, 1) := by decide +kernel
theorem dX9_ends_66 : decode cX9_ends 66 = .ok (.imul, 1) := by decide +kernel
theorem dX9_ends_67 : decode cX9_ends 67 = .ok (.iload_n 2, 1) := by decide +kernel
theorem dX9_ends_68 : decode cX9_ends 68 = .ok (.iadd, 1) := by decide +kernel
theorem dX9_ends_69 : decode cX9_ends 69 = .ok (.iaload, 1) := by decide +kernel
theorem dX9_ends_70 : decode cX9_ends 70 = .ok (.isub, 1) := by decide +kernel
theorem dX9_ends_71 : decode cX9_ends 71 = .ok (.iadd, 1) := by decide +kernel
theorem dX9_ends_72 : decode cX9_ends 72 = .ok (.iastore, 1) := by decide +kernel
theorem dX9_ends_73 : decode cX9_ends 73 = .ok (.goto 34, 3) := by decide +kernel
theorem dX9_ends_76 : decode cX9_ends 76 = .ok (.aload_n 0, 1) := by decide +kernel
theorem dX9_ends_77 : decode cX9_ends 77 = .ok (.getfield 46, 3) := by decide +kernel
theorem dX9_ends_80 : decode cX9_ends 80 = .ok (.iload_n 1, 1) := by decide +kernel
theorem dX9_ends_81 : decode cX9_ends 81 = .ok (.iaload, 1) := by decide +kernel
theorem dX9_ends_82 : decode cX9_ends 82 = .ok (.sipush 7200, 3) := by decide +kernel
theorem dX9_ends_85 : decode cX9_ends 85 = .ok (.if_icmp .ge 22, 3) := by decide +kernel
theorem dX9_ends_88 : decode cX9_ends 88 = .ok (.aload_n 0, 1) := by decide +kernel
theorem dX9_ends_89 : decode cX9_ends 89 = .ok (.getfield 52, 3) := by decide +kernel
theorem dX9_ends_92 : decode cX9_ends 92 = .ok (.iload_n 3, 1) := by decide +kernel
theorem dX9_ends_93 : decode cX9_ends 93 = .ok (.dup2, 1) := by decide +kernel
theorem dX9_ends_94 : decode cX9_ends 94 = .ok (.iaload, 1) := by decide +kernel
theorem dX9_ends_95 : decode cX9_ends 95 = .ok (.sipush 7200, 3) := by decide +kernel
theorem dX9_ends_98 : decode cX9_ends 98 = .ok (.aload_n 0, 1) := by decide +kernel
theorem dX9_ends_99 : decode cX9_ends 99 = .ok (.getfield 46, 3) := by decide +kernel
theorem dX9_ends_102 : decode cX9_ends 102 = .ok (.iload_n 1, 1) := by decide +kernel
theorem dX9_ends_103 : decode cX9_ends 103 = .ok (.iaload, 1) := by decide +kernel
theorem dX9_ends_104 : decode cX9_ends 104 = .ok (.isub, 1) := by decide +kernel
theorem dX9_ends_105 : decode cX9_ends 105 = .ok (.iadd, 1) := by decide +kernel
theorem dX9_ends_106 : decode cX9_ends 106 = .ok (.iastore, 1) := by decide +kernel
theorem dX9_ends_107 : decode cX9_ends 107 = .ok (.iinc 2 1, 3) := by decide +kernel
theorem dX9_ends_110 : decode cX9_ends 110 = .ok (.goto (-96), 3) := by decide +kernel
theorem dX9_ends_113 : decode cX9_ends 113 = .ok (.iinc 1 1, 3) := by decide +kernel
theorem dX9_ends_116 : decode cX9_ends 116 = .ok (.goto (-114), 3) := by decide +kernel
theorem dX9_ends_119 : decode cX9_ends 119 = .ok (.return_, 1) := by decide +kernel
theorem dX9_day_0 : decode cX9_day 0 = .ok (.iconst 0, 1) := by decide +kernel
theorem dX9_day_1 : decode cX9_day 1 = .ok (.istore_n 1, 1) := by decide +kernel
theorem dX9_day_2 : decode cX9_day 2 = .ok (.iload_n 1, 1) := by decide +kernel
theorem dX9_day_3 : decode cX9_day 3 = .ok (.bipush 6, 2) := by decide +kernel
theorem dX9_day_5 : decode cX9_day 5 = .ok (.if_icmp .ge 46, 3) := by decide +kernel
theorem dX9_day_8 : decode cX9_day 8 = .ok (.aload_n 0, 1) := by decide +kernel
theorem dX9_day_9 : decode cX9_day 9 = .ok (.getfield 43, 3) := by decide +kernel
theorem dX9_day_12 : decode cX9_day 12 = .ok (.iload_n 1, 1) := by decide +kernel
theorem dX9_day_13 : decode cX9_day 13 = .ok (.iconst 0, 1) := by decide +kernel
theorem dX9_day_14 : decode cX9_day 14 = .ok (.iastore, 1) := by decide +kernel
theorem dX9_day_15 : decode cX9_day 15 = .ok (.aload_n 0, 1) := by decide +kernel
theorem dX9_day_16 : decode cX9_day 16 = .ok (.getfield 46, 3) := by decide +kernel
theorem dX9_day_19 : decode cX9_day 19 = .ok (.iload_n 1, 1) := by decide +kernel
theorem dX9_day_20 : decode cX9_day 20 = .ok (.bipush (-9), 2) := by decide +kernel
theorem dX9_day_22 : decode cX9_day 22 = .ok (.iastore, 1) := by decide +kernel
theorem dX9_day_23 : decode cX9_day 23 = .ok (.aload_n 0, 1) := by decide +kernel
theorem dX9_day_24 : decode cX9_day 24 = .ok (.getfield 49, 3) := by decide +kernel
theorem dX9_day_27 : decode cX9_day 27 = .ok (.iload_n 1, 1) := by decide +kernel
theorem dX9_day_28 : decode cX9_day 28 = .ok (.bipush (-9), 2) := by decide +kernel
theorem dX9_day_30 : decode cX9_day 30 = .ok (.iastore, 1) := by decide +kernel
theorem dX9_day_31 : decode cX9_day 31 = .ok (.aload_n 0, 1) := by decide +kernel
theorem dX9_day_32 : decode cX9_day 32 = .ok (.getfield 64, 3) := by decide +kernel
theorem dX9_day_35 : decode cX9_day 35 = .ok (.iload_n 1, 1) := by decide +kernel
theorem dX9_day_36 : decode cX9_day 36 = .ok (.iconst 0, 1) := by decide +kernel
theorem dX9_day_37 : decode cX9_day 37 = .ok (.iastore, 1) := by decide +kernel
theorem dX9_day_38 : decode cX9_day 38 = .ok (.aload_n 0, 1) := by decide +kernel
theorem dX9_day_39 : decode cX9_day 39 = .ok (.getfield 67, 3) := by decide +kernel
theorem dX9_day_42 : decode cX9_day 42 = .ok (.iload_n 1, 1) := by decide +kernel
theorem dX9_day_43 : decode cX9_day 43 = .ok (.iconst 0, 1) := by decide +kernel
theorem dX9_day_44 : decode cX9_day 44 = .ok (.iastore, 1) := by decide +kernel
theorem dX9_day_45 : decode cX9_day 45 = .ok (.iinc 1 1, 3) := by decide +kernel
theorem dX9_day_48 : decode cX9_day 48 = .ok (.goto (-46), 3) := by decide +kernel
theorem dX9_day_51 : decode cX9_day 51 = .ok (.iconst 0, 1) := by decide +kernel
theorem dX9_day_52 : decode cX9_day 52 = .ok (.istore_n 1, 1) := by decide +kernel
theorem dX9_day_53 : decode cX9_day 53 = .ok (.iload_n 1, 1) := by decide +kernel
theorem dX9_day_54 : decode cX9_day 54 = .ok (.iconst 5, 1) := by decide +kernel
theorem dX9_day_55 : decode cX9_day 55 = .ok (.if_icmp .ge 37, 3) := by decide +kernel
theorem dX9_day_58 : decode cX9_day 58 = .ok (.aload_n 0, 1) := by decide +kernel
theorem dX9_day_59 : decode cX9_day 59 = .ok (.getfield 52, 3) := by decide +kernel
theorem dX9_day_62 : decode cX9_day 62 = .ok (.iload_n 1, 1) := by decide +kernel
theorem dX9_day_63 : decode cX9_day 63 = .ok (.iconst 0, 1) := by decide +kernel
theorem dX9_day_64 : decode cX9_day 64 = .ok (.iastore, 1) := by decide +kernel
theorem dX9_day_65 : decode cX9_day 65 = .ok (.aload_n 0, 1) := by decide +kernel
theorem dX9_day_66 : decode cX9_day 66 = .ok (.getfield 55, 3) := by decide +kernel
theorem dX9_day_69 : decode cX9_day 69 = .ok (.iload_n 1, 1) := by decide +kernel
theorem dX9_day_70 : decode cX9_day 70 = .ok (.iconst 0, 1) := by decide +kernel
theorem dX9_day_71 : decode cX9_day 71 = .ok (.iastore, 1) := by decide +kernel
theorem dX9_day_72 : decode cX9_day 72 = .ok (.aload_n 0, 1) := by decide +kernel
theorem dX9_day_73 : decode cX9_day 73 = .ok (.getfield 58, 3) := by decide +kernel
theorem dX9_day_76 : decode cX9_day 76 = .ok (.iload_n 1, 1) := by decide +kernel
theorem dX9_day_77 : decode cX9_day 77 = .ok (.iconst 0, 1) := by decide +kernel
theorem dX9_day_78 : decode cX9_day 78 = .ok (.iastore, 1) := by decide +kernel
theorem dX9_day_79 : decode cX9_day 79 = .ok (.aload_n 0, 1) := by decide +kernel
theorem dX9_day_80 : decode cX9_day 80 = .ok (.getfield 61, 3) := by decide +kernel
theorem dX9_day_83 : decode cX9_day 83 = .ok (.iload_n 1, 1) := by decide +kernel
theorem dX9_day_84 : decode cX9_day 84 = .ok (.iconst 0, 1) := by decide +kernel
theorem dX9_day_85 : decode cX9_day 85 = .ok (.iastore, 1) := by decide +kernel
theorem dX9_day_86 : decode cX9_day 86 = .ok (.iinc 1 1, 3) := by decide +kernel
theorem dX9_day_89 : decode cX9_day 89 = .ok (.goto (-36), 3) := by decide +kernel
theorem dX9_day_92 : decode cX9_day 92 = .ok (.aload_n 0, 1) := by decide +kernel
theorem dX9_day_93 : decode cX9_day 93 = .ok (.iconst 0, 1) := by decide +kernel
theorem dX9_day_94 : decode cX9_day 94 = .ok (.putfield 174, 3) := by decide +kernel
theorem dX9_day_97 : decode cX9_day 97 = .ok (.aload_n 0, 1) := by decide +kernel
theorem dX9_day_98 : decode cX9_day 98 = .ok (.iconst 0, 1) := by decide +kernel
theorem dX9_day_99 : decode cX9_day 99 = .ok (.putfield 165, 3) := by decide +kernel
theorem dX9_day_102 : decode cX9_day 102 = .ok (.aload_n 0, 1) := by decide +kernel
theorem dX9_day_103 : decode cX9_day 103 = .ok (.bipush (-9), 2) := by decide +kernel
theorem dX9_day_105 : decode cX9_day 105 = .ok (.putfield 200, 3) := by decide +kernel
theorem dX9_day_108 : decode cX9_day 108 = .ok (.iconst 0, 1) := by decide +kernel
theorem dX9_day_109 : decode cX9_day 109 = .ok (.istore_n 1, 1) := by decide +kernel
theorem dX9_day_110 : decode cX9_day 110 = .ok (.iload_n 1, 1) := by decide +kernel
theorem dX9_day_111 : decode cX9_day 111 = .ok (.sipush 7200, 3) := by decide +kernel
theorem dX9_day_114 : decode cX9_day 114 = .ok (.if_icmp .ge 14, 3) := by decide +kernel
theorem dX9_day_117 : decode cX9_day 117 = .ok (.aload_n 0, 1) := by decide +kernel
theorem dX9_day_118 : decode cX9_day 118 = .ok (.iload_n 1, 1) := by decide +kernel
theorem dX9_day_119 : decode cX9_day 119 = .ok (.invokevirtual 214, 3) := by decide +kernel
theorem dX9_day_122 : decode cX9_day 122 = .ok (.iinc 1 1, 3) := by decide +kernel
theorem dX9_day_125 : decode cX9_day 125 = .ok (.goto (-15), 3) := by decide +kernel
theorem dX9_day_128 : decode cX9_day 128 = .ok (.aload_n 0, 1) := by decide +kernel
theorem dX9_day_129 : decode cX9_day 129 = .ok (.invokevirtual 217, 3) := by decide +kernel
theorem dX9_day_132 : decode cX9_day 132 = .ok (.return_, 1) := by decide +kernel
theorem dX9_costOf_0 : decode cX9_costOf 0 = .ok (.aload_n 0, 1) := by decide +kernel
theorem dX9_costOf_1 : decode cX9_costOf 1 = .ok (.bipush (-9), 2) := by decide +kernel
theorem dX9_costOf_3 : decode cX9_costOf 3 = .ok (.putfield 184, 3) := by decide +kernel
theorem dX9_costOf_6 : decode cX9_costOf 6 = .ok (.aload_n 0, 1) := by decide +kernel
theorem dX9_costOf_7 : decode cX9_costOf 7 = .ok (.invokevirtual 220, 3) := by decide +kernel
theorem dX9_costOf_10 : decode cX9_costOf 10 = .ok (.ireturn, 1) := by decide +kernel
theorem dX9_costNow_0 : decode cX9_costNow 0 = .ok (.aload_n 0, 1) := by decide +kernel
theorem dX9_costNow_1 : decode cX9_costNow 1 = .ok (.invokevirtual 223, 3) := by decide +kernel
theorem dX9_costNow_4 : decode cX9_costNow 4 = .ok (.iconst 0, 1) := by decide +kernel
theorem dX9_costNow_5 : decode cX9_costNow 5 = .ok (.istore_n 1, 1) := by decide +kernel
theorem dX9_costNow_6 : decode cX9_costNow 6 = .ok (.iconst 0, 1) := by decide +kernel
theorem dX9_costNow_7 : decode cX9_costNow 7 = .ok (.istore_n 2, 1) := by decide +kernel
theorem dX9_costNow_8 : decode cX9_costNow 8 = .ok (.iload_n 2, 1) := by decide +kernel
theorem dX9_costNow_9 : decode cX9_costNow 9 = .ok (.aload_n 0, 1) := by decide +kernel
theorem dX9_costNow_10 : decode cX9_costNow 10 = .ok (.getfield 13, 3) := by decide +kernel
theorem dX9_costNow_13 : decode cX9_costNow 13 = .ok (.iconst 0, 1) := by decide +kernel
theorem dX9_costNow_14 : decode cX9_costNow 14 = .ok (.iaload, 1) := by decide +kernel
theorem dX9_costNow_15 : decode cX9_costNow 15 = .ok (.if_icmp .ge 35, 3) := by decide +kernel
theorem dX9_costNow_18 : decode cX9_costNow 18 = .ok (.iload_n 1, 1) := by decide +kernel
theorem dX9_costNow_19 : decode cX9_costNow 19 = .ok (.aload_n 0, 1) := by decide +kernel
theorem dX9_costNow_20 : decode cX9_costNow 20 = .ok (.getfield 52, 3) := by decide +kernel
theorem dX9_costNow_23 : decode cX9_costNow 23 = .ok (.iload_n 2, 1) := by decide +kernel
theorem dX9_costNow_24 : decode cX9_costNow 24 = .ok (.iaload, 1) := by decide +kernel
theorem dX9_costNow_25 : decode cX9_costNow 25 = .ok (.aload_n 0, 1) := by decide +kernel
theorem dX9_costNow_26 : decode cX9_costNow 26 = .ok (.iload_n 2, 1) := by decide +kernel
theorem dX9_costNow_27 : decode cX9_costNow 27 = .ok (.invokevirtual 226, 3) := by decide +kernel
theorem dX9_costNow_30 : decode cX9_costNow 30 = .ok (.imul, 1) := by decide +kernel
theorem dX9_costNow_31 : decode cX9_costNow 31 = .ok (.sipush 1000, 3) := by decide +kernel
theorem dX9_costNow_34 : decode cX9_costNow 34 = .ok (.aload_n 0, 1) := by decide +kernel
theorem dX9_costNow_35 : decode cX9_costNow 35 = .ok (.getfield 61, 3) := by decide +kernel
theorem dX9_costNow_38 : decode cX9_costNow 38 = .ok (.iload_n 2, 1) := by decide +kernel
theorem dX9_costNow_39 : decode cX9_costNow 39 = .ok (.iaload, 1) := by decide +kernel
theorem dX9_costNow_40 : decode cX9_costNow 40 = .ok (.imul, 1) := by decide +kernel
theorem dX9_costNow_41 : decode cX9_costNow 41 = .ok (.iadd, 1) := by decide +kernel
theorem dX9_costNow_42 : decode cX9_costNow 42 = .ok (.iadd, 1) := by decide +kernel
theorem dX9_costNow_43 : decode cX9_costNow 43 = .ok (.istore_n 1, 1) := by decide +kernel
theorem dX9_costNow_44 : decode cX9_costNow 44 = .ok (.iinc 2 1, 3) := by decide +kernel
theorem dX9_costNow_47 : decode cX9_costNow 47 = .ok (.goto (-39), 3) := by decide +kernel
theorem dX9_costNow_50 : decode cX9_costNow 50 = .ok (.iload_n 1, 1) := by decide +kernel
theorem dX9_costNow_51 : decode cX9_costNow 51 = .ok (.ireturn, 1) := by decide +kernel
theorem dX9_plainDay_0 : decode cX9_plainDay 0 = .ok (.aload_n 0, 1) := by decide +kernel
theorem dX9_plainDay_1 : decode cX9_plainDay 1 = .ok (.bipush (-9), 2) := by decide +kernel
theorem dX9_plainDay_3 : decode cX9_plainDay 3 = .ok (.putfield 184, 3) := by decide +kernel
theorem dX9_plainDay_6 : decode cX9_plainDay 6 = .ok (.aload_n 0, 1) := by decide +kernel
theorem dX9_plainDay_7 : decode cX9_plainDay 7 = .ok (.invokevirtual 223, 3) := by decide +kernel
theorem dX9_plainDay_10 : decode cX9_plainDay 10 = .ok (.return_, 1) := by decide +kernel
theorem dX9_cost_0 : decode cX9_cost 0 = .ok (.aload_n 0, 1) := by decide +kernel
theorem dX9_cost_1 : decode cX9_cost 1 = .ok (.invokevirtual 229, 3) := by decide +kernel
theorem dX9_cost_4 : decode cX9_cost 4 = .ok (.ireturn, 1) := by decide +kernel
theorem dX9_waited_0 : decode cX9_waited 0 = .ok (.aload_n 0, 1) := by decide +kernel
theorem dX9_waited_1 : decode cX9_waited 1 = .ok (.iload_n 1, 1) := by decide +kernel
theorem dX9_waited_2 : decode cX9_waited 2 = .ok (.invokevirtual 123, 3) := by decide +kernel
theorem dX9_waited_5 : decode cX9_waited 5 = .ok (.ifCond .ne 9, 3) := by decide +kernel
theorem dX9_waited_8 : decode cX9_waited 8 = .ok (.aload_n 0, 1) := by decide +kernel
theorem dX9_waited_9 : decode cX9_waited 9 = .ok (.iconst (-1), 1) := by decide +kernel
theorem dX9_waited_10 : decode cX9_waited 10 = .ok (.invokevirtual 86, 3) := by decide +kernel
theorem dX9_waited_13 : decode cX9_waited 13 = .ok (.ireturn, 1) := by decide +kernel
theorem dX9_waited_14 : decode cX9_waited 14 = .ok (.aload_n 0, 1) := by decide +kernel
theorem dX9_waited_15 : decode cX9_waited 15 = .ok (.invokevirtual 232, 3) := by decide +kernel
theorem dX9_waited_18 : decode cX9_waited 18 = .ok (.aload_n 0, 1) := by decide +kernel
theorem dX9_waited_19 : decode cX9_waited 19 = .ok (.getfield 52, 3) := by decide +kernel
theorem dX9_waited_22 : decode cX9_waited 22 = .ok (.iload_n 1, 1) := by decide +kernel
theorem dX9_waited_23 : decode cX9_waited 23 = .ok (.iaload, 1) := by decide +kernel
theorem dX9_waited_24 : decode cX9_waited 24 = .ok (.ireturn, 1) := by decide +kernel
theorem dX9_served_0 : decode cX9_served 0 = .ok (.aload_n 0, 1) := by decide +kernel
theorem dX9_served_1 : decode cX9_served 1 = .ok (.iload_n 1, 1) := by decide +kernel
theorem dX9_served_2 : decode cX9_served 2 = .ok (.invokevirtual 123, 3) := by decide +kernel
theorem dX9_served_5 : decode cX9_served 5 = .ok (.ifCond .ne 9, 3) := by decide +kernel
theorem dX9_served_8 : decode cX9_served 8 = .ok (.aload_n 0, 1) := by decide +kernel
theorem dX9_served_9 : decode cX9_served 9 = .ok (.iconst (-1), 1) := by decide +kernel
theorem dX9_served_10 : decode cX9_served 10 = .ok (.invokevirtual 86, 3) := by decide +kernel
theorem dX9_served_13 : decode cX9_served 13 = .ok (.ireturn, 1) := by decide +kernel
theorem dX9_served_14 : decode cX9_served 14 = .ok (.aload_n 0, 1) := by decide +kernel
theorem dX9_served_15 : decode cX9_served 15 = .ok (.invokevirtual 232, 3) := by decide +kernel
theorem dX9_served_18 : decode cX9_served 18 = .ok (.aload_n 0, 1) := by decide +kernel
theorem dX9_served_19 : decode cX9_served 19 = .ok (.getfield 58, 3) := by decide +kernel
theorem dX9_served_22 : decode cX9_served 22 = .ok (.iload_n 1, 1) := by decide +kernel
theorem dX9_served_23 : decode cX9_served 23 = .ok (.iaload, 1) := by decide +kernel
theorem dX9_served_24 : decode cX9_served 24 = .ok (.ireturn, 1) := by decide +kernel
theorem dX9_lost_0 : decode cX9_lost 0 = .ok (.aload_n 0, 1) := by decide +kernel
theorem dX9_lost_1 : decode cX9_lost 1 = .ok (.iload_n 1, 1) := by decide +kernel
theorem dX9_lost_2 : decode cX9_lost 2 = .ok (.invokevirtual 123, 3) := by decide +kernel
theorem dX9_lost_5 : decode cX9_lost 5 = .ok (.ifCond .ne 9, 3) := by decide +kernel
theorem dX9_lost_8 : decode cX9_lost 8 = .ok (.aload_n 0, 1) := by decide +kernel
theorem dX9_lost_9 : decode cX9_lost 9 = .ok (.iconst (-1), 1) := by decide +kernel
theorem dX9_lost_10 : decode cX9_lost 10 = .ok (.invokevirtual 86, 3) := by decide +kernel
theorem dX9_lost_13 : decode cX9_lost 13 = .ok (.ireturn, 1) := by decide +kernel
theorem dX9_lost_14 : decode cX9_lost 14 = .ok (.aload_n 0, 1) := by decide +kernel
theorem dX9_lost_15 : decode cX9_lost 15 = .ok (.invokevirtual 232, 3) := by decide +kernel
theorem dX9_lost_18 : decode cX9_lost 18 = .ok (.aload_n 0, 1) := by decide +kernel
theorem dX9_lost_19 : decode cX9_lost 19 = .ok (.getfield 61, 3) := by decide +kernel
theorem dX9_lost_22 : decode cX9_lost 22 = .ok (.iload_n 1, 1) := by decide +kernel
theorem dX9_lost_23 : decode cX9_lost 23 = .ok (.iaload, 1) := by decide +kernel
theorem dX9_lost_24 : decode cX9_lost 24 = .ok (.ireturn, 1) := by decide +kernel
theorem dX9_strayed_0 : decode cX9_strayed 0 = .ok (.aload_n 0, 1) := by decide +kernel
theorem dX9_strayed_1 : decode cX9_strayed 1 = .ok (.invokevirtual 232, 3) := by decide +kernel
theorem dX9_strayed_4 : decode cX9_strayed 4 = .ok (.aload_n 0, 1) := by decide +kernel
theorem dX9_strayed_5 : decode cX9_strayed 5 = .ok (.getfield 174, 3) := by decide +kernel
theorem dX9_strayed_8 : decode cX9_strayed 8 = .ok (.ireturn, 1) := by decide +kernel
theorem dX9_longest_0 : decode cX9_longest 0 = .ok (.aload_n 0, 1) := by decide +kernel
theorem dX9_longest_1 : decode cX9_longest 1 = .ok (.iload_n 1, 1) := by decide +kernel
theorem dX9_longest_2 : decode cX9_longest 2 = .ok (.invokevirtual 126, 3) := by decide +kernel
theorem dX9_longest_5 : decode cX9_longest 5 = .ok (.ifCond .ne 9, 3) := by decide +kernel
theorem dX9_longest_8 : decode cX9_longest 8 = .ok (.aload_n 0, 1) := by decide +kernel
theorem dX9_longest_9 : decode cX9_longest 9 = .ok (.iconst (-1), 1) := by decide +kernel
theorem dX9_longest_10 : decode cX9_longest 10 = .ok (.invokevirtual 86, 3) := by decide +kernel
theorem dX9_longest_13 : decode cX9_longest 13 = .ok (.ireturn, 1) := by decide +kernel
theorem dX9_longest_14 : decode cX9_longest 14 = .ok (.aload_n 0, 1) := by decide +kernel
theorem dX9_longest_15 : decode cX9_longest 15 = .ok (.invokevirtual 232, 3) := by decide +kernel
theorem dX9_longest_18 : decode cX9_longest 18 = .ok (.aload_n 0, 1) := by decide +kernel
theorem dX9_longest_19 : decode cX9_longest 19 = .ok (.getfield 64, 3) := by decide +kernel
theorem dX9_longest_22 : decode cX9_longest 22 = .ok (.iload_n 1, 1) := by decide +kernel
theorem dX9_longest_23 : decode cX9_longest 23 = .ok (.iaload, 1) := by decide +kernel
theorem dX9_longest_24 : decode cX9_longest 24 = .ok (.ireturn, 1) := by decide +kernel
theorem dX9_passed_0 : decode cX9_passed 0 = .ok (.aload_n 0, 1) := by decide +kernel
theorem dX9_passed_1 : decode cX9_passed 1 = .ok (.iload_n 1, 1) := by decide +kernel
theorem dX9_passed_2 : decode cX9_passed 2 = .ok (.invokevirtual 126, 3) := by decide +kernel
theorem dX9_passed_5 : decode cX9_passed 5 = .ok (.ifCond .ne 9, 3) := by decide +kernel
theorem dX9_passed_8 : decode cX9_passed 8 = .ok (.aload_n 0, 1) := by decide +kernel
theorem dX9_passed_9 : decode cX9_passed 9 = .ok (.iconst (-1), 1) := by decide +kernel
theorem dX9_passed_10 : decode cX9_passed 10 = .ok (.invokevirtual 86, 3) := by decide +kernel
theorem dX9_passed_13 : decode cX9_passed 13 = .ok (.ireturn, 1) := by decide +kernel
theorem dX9_passed_14 : decode cX9_passed 14 = .ok (.aload_n 0, 1) := by decide +kernel
theorem dX9_passed_15 : decode cX9_passed 15 = .ok (.invokevirtual 232, 3) := by decide +kernel
theorem dX9_passed_18 : decode cX9_passed 18 = .ok (.aload_n 0, 1) := by decide +kernel
theorem dX9_passed_19 : decode cX9_passed 19 = .ok (.getfield 67, 3) := by decide +kernel
theorem dX9_passed_22 : decode cX9_passed 22 = .ok (.iload_n 1, 1) := by decide +kernel
theorem dX9_passed_23 : decode cX9_passed 23 = .ok (.iaload, 1) := by decide +kernel
theorem dX9_passed_24 : decode cX9_passed 24 = .ok (.ireturn, 1) := by decide +kernel
theorem dX9_last_0 : decode cX9_last 0 = .ok (.aload_n 0, 1) := by decide +kernel
theorem dX9_last_1 : decode cX9_last 1 = .ok (.invokevirtual 232, 3) := by decide +kernel
theorem dX9_last_4 : decode cX9_last 4 = .ok (.aload_n 0, 1) := by decide +kernel
theorem dX9_last_5 : decode cX9_last 5 = .ok (.getfield 200, 3) := by decide +kernel
theorem dX9_last_8 : decode cX9_last 8 = .ok (.ireturn, 1) := by decide +kernel
theorem dX9_common_0 : decode cX9_common 0 = .ok (.iload_n 1, 1) := by decide +kernel
theorem dX9_common_1 : decode cX9_common 1 = .ok (.ifCond .ne 7, 3) := by decide +kernel
theorem dX9_common_4 : decode cX9_common 4 = .ok (.iload_n 0, 1) := by decide +kernel
theorem dX9_common_5 : decode cX9_common 5 = .ok (.goto 10, 3) := by decide +kernel
theorem dX9_common_8 : decode cX9_common 8 = .ok (.iload_n 1, 1) := by decide +kernel
theorem dX9_common_9 : decode cX9_common 9 = .ok (.iload_n 0, 1) := by decide +kernel
theorem dX9_common_10 : decode cX9_common 10 = .ok (.iload_n 1, 1) := by decide +kernel
theorem dX9_common_11 : decode cX9_common 11 = .ok (.irem, 1) := by decide +kernel
theorem dX9_common_12 : decode cX9_common 12 = .ok (.invokestatic 235, 3) := by decide +kernel
theorem dX9_common_15 : decode cX9_common 15 = .ok (.ireturn, 1) := by decide +kernel
theorem dX9_mean_0 : decode cX9_mean 0 = .ok (.aload_n 0, 1) := by decide +kernel
theorem dX9_mean_1 : decode cX9_mean 1 = .ok (.iload_n 1, 1) := by decide +kernel
theorem dX9_mean_2 : decode cX9_mean 2 = .ok (.invokevirtual 123, 3) := by decide +kernel
theorem dX9_mean_5 : decode cX9_mean 5 = .ok (.ifCond .ne 9, 3) := by decide +kernel
theorem dX9_mean_8 : decode cX9_mean 8 = .ok (.aload_n 0, 1) := by decide +kernel
theorem dX9_mean_9 : decode cX9_mean 9 = .ok (.iconst (-1), 1) := by decide +kernel
theorem dX9_mean_10 : decode cX9_mean 10 = .ok (.invokevirtual 86, 3) := by decide +kernel
theorem dX9_mean_13 : decode cX9_mean 13 = .ok (.ireturn, 1) := by decide +kernel
theorem dX9_mean_14 : decode cX9_mean 14 = .ok (.iload_n 2, 1) := by decide +kernel
theorem dX9_mean_15 : decode cX9_mean 15 = .ok (.iconst 2, 1) := by decide +kernel
theorem dX9_mean_16 : decode cX9_mean 16 = .ok (.invokestatic 82, 3) := by decide +kernel
theorem dX9_mean_19 : decode cX9_mean 19 = .ok (.ifCond .ne 10, 3) := by decide +kernel
theorem dX9_mean_22 : decode cX9_mean 22 = .ok (.aload_n 0, 1) := by decide +kernel
theorem dX9_mean_23 : decode cX9_mean 23 = .ok (.bipush (-2), 2) := by decide +kernel
theorem dX9_mean_25 : decode cX9_mean 25 = .ok (.invokevirtual 86, 3) := by decide +kernel
theorem dX9_mean_28 : decode cX9_mean 28 = .ok (.ireturn, 1) := by decide +kernel
theorem dX9_mean_29 : decode cX9_mean 29 = .ok (.aload_n 0, 1) := by decide +kernel
theorem dX9_mean_30 : decode cX9_mean 30 = .ok (.invokevirtual 232, 3) := by decide +kernel
theorem dX9_mean_33 : decode cX9_mean 33 = .ok (.aload_n 0, 1) := by decide +kernel
theorem dX9_mean_34 : decode cX9_mean 34 = .ok (.getfield 55, 3) := by decide +kernel
theorem dX9_mean_37 : decode cX9_mean 37 = .ok (.iload_n 1, 1) := by decide +kernel
theorem dX9_mean_38 : decode cX9_mean 38 = .ok (.iaload, 1) := by decide +kernel
theorem dX9_mean_39 : decode cX9_mean 39 = .ok (.ifCond .ne 5, 3) := by decide +kernel
theorem dX9_mean_42 : decode cX9_mean 42 = .ok (.iload_n 2, 1) := by decide +kernel
theorem dX9_mean_43 : decode cX9_mean 43 = .ok (.ireturn, 1) := by decide +kernel
theorem dX9_mean_44 : decode cX9_mean 44 = .ok (.aload_n 0, 1) := by decide +kernel
theorem dX9_mean_45 : decode cX9_mean 45 = .ok (.getfield 55, 3) := by decide +kernel
theorem dX9_mean_48 : decode cX9_mean 48 = .ok (.iload_n 1, 1) := by decide +kernel
theorem dX9_mean_49 : decode cX9_mean 49 = .ok (.iaload, 1) := by decide +kernel
theorem dX9_mean_50 : decode cX9_mean 50 = .ok (.aload_n 0, 1) := by decide +kernel
theorem dX9_mean_51 : decode cX9_mean 51 = .ok (.getfield 52, 3) := by decide +kernel
theorem dX9_mean_54 : decode cX9_mean 54 = .ok (.iload_n 1, 1) := by decide +kernel
theorem dX9_mean_55 : decode cX9_mean 55 = .ok (.iaload, 1) := by decide +kernel
theorem dX9_mean_56 : decode cX9_mean 56 = .ok (.invokestatic 235, 3) := by decide +kernel
theorem dX9_mean_59 : decode cX9_mean 59 = .ok (.istore_n 3, 1) := by decide +kernel
theorem dX9_mean_60 : decode cX9_mean 60 = .ok (.iload_n 2, 1) := by decide +kernel
theorem dX9_mean_61 : decode cX9_mean 61 = .ok (.ifCond .ne 14, 3) := by decide +kernel
theorem dX9_mean_64 : decode cX9_mean 64 = .ok (.aload_n 0, 1) := by decide +kernel
theorem dX9_mean_65 : decode cX9_mean 65 = .ok (.getfield 52, 3) := by decide +kernel
theorem dX9_mean_68 : decode cX9_mean 68 = .ok (.iload_n 1, 1) := by decide +kernel
theorem dX9_mean_69 : decode cX9_mean 69 = .ok (.iaload, 1) := by decide +kernel
theorem dX9_mean_70 : decode cX9_mean 70 = .ok (.iload_n 3, 1) := by decide +kernel
theorem dX9_mean_71 : decode cX9_mean 71 = .ok (.idiv, 1) := by decide +kernel
theorem dX9_mean_72 : decode cX9_mean 72 = .ok (.goto 11, 3) := by decide +kernel
theorem dX9_mean_75 : decode cX9_mean 75 = .ok (.aload_n 0, 1) := by decide +kernel
theorem dX9_mean_76 : decode cX9_mean 76 = .ok (.getfield 55, 3) := by decide +kernel
theorem dX9_mean_79 : decode cX9_mean 79 = .ok (.iload_n 1, 1) := by decide +kernel
theorem dX9_mean_80 : decode cX9_mean 80 = .ok (.iaload, 1) := by decide +kernel
theorem dX9_mean_81 : decode cX9_mean 81 = .ok (.iload_n 3, 1) := by decide +kernel
theorem dX9_mean_82 : decode cX9_mean 82 = .ok (.idiv, 1) := by decide +kernel
theorem dX9_mean_83 : decode cX9_mean 83 = .ok (.ireturn, 1) := by decide +kernel
theorem dX9_keeps_0 : decode cX9_keeps 0 = .ok (.iconst 0, 1) := by decide +kernel
theorem dX9_keeps_1 : decode cX9_keeps 1 = .ok (.istore_n 1, 1) := by decide +kernel
theorem dX9_keeps_2 : decode cX9_keeps 2 = .ok (.iload_n 1, 1) := by decide +kernel
theorem dX9_keeps_3 : decode cX9_keeps 3 = .ok (.bipush 64, 2) := by decide +kernel
theorem dX9_keeps_5 : decode cX9_keeps 5 = .ok (.if_icmp .ge 21, 3) := by decide +kernel
theorem dX9_keeps_8 : decode cX9_keeps 8 = .ok (.aload_n 0, 1) := by decide +kernel
theorem dX9_keeps_9 : decode cX9_keeps 9 = .ok (.getfield 22, 3) := by decide +kernel
theorem dX9_keeps_12 : decode cX9_keeps 12 = .ok (.iload_n 1, 1) := by decide +kernel
theorem dX9_keeps_13 : decode cX9_keeps 13 = .ok (.aload_n 0, 1) := by decide +kernel
theorem dX9_keeps_14 : decode cX9_keeps 14 = .ok (.getfield 13, 3) := by decide +kernel
theorem dX9_keeps_17 : decode cX9_keeps 17 = .ok (.iload_n 1, 1) := by decide +kernel
theorem dX9_keeps_18 : decode cX9_keeps 18 = .ok (.iaload, 1) := by decide +kernel
theorem dX9_keeps_19 : decode cX9_keeps 19 = .ok (.iastore, 1) := by decide +kernel
theorem dX9_keeps_20 : decode cX9_keeps 20 = .ok (.iinc 1 1, 3) := by decide +kernel
theorem dX9_keeps_23 : decode cX9_keeps 23 = .ok (.goto (-21), 3) := by decide +kernel
theorem dX9_keeps_26 : decode cX9_keeps 26 = .ok (.return_, 1) := by decide +kernel
theorem dX9_putsBack_0 : decode cX9_putsBack 0 = .ok (.iconst 0, 1) := by decide +kernel
theorem dX9_putsBack_1 : decode cX9_putsBack 1 = .ok (.istore_n 1, 1) := by decide +kernel
theorem dX9_putsBack_2 : decode cX9_putsBack 2 = .ok (.iload_n 1, 1) := by decide +kernel
theorem dX9_putsBack_3 : decode cX9_putsBack 3 = .ok (.bipush 64, 2) := by decide +kernel
theorem dX9_putsBack_5 : decode cX9_putsBack 5 = .ok (.if_icmp .ge 21, 3) := by decide +kernel
theorem dX9_putsBack_8 : decode cX9_putsBack 8 = .ok (.aload_n 0, 1) := by decide +kernel
theorem dX9_putsBack_9 : decode cX9_putsBack 9 = .ok (.getfield 13, 3) := by decide +kernel
theorem dX9_putsBack_12 : decode cX9_putsBack 12 = .ok (.iload_n 1, 1) := by decide +kernel
theorem dX9_putsBack_13 : decode cX9_putsBack 13 = .ok (.aload_n 0, 1) := by decide +kernel
theorem dX9_putsBack_14 : decode cX9_putsBack 14 = .ok (.getfield 22, 3) := by decide +kernel
theorem dX9_putsBack_17 : decode cX9_putsBack 17 = .ok (.iload_n 1, 1) := by decide +kernel
theorem dX9_putsBack_18 : decode cX9_putsBack 18 = .ok (.iaload, 1) := by decide +kernel
theorem dX9_putsBack_19 : decode cX9_putsBack 19 = .ok (.iastore, 1) := by decide +kernel
theorem dX9_putsBack_20 : decode cX9_putsBack 20 = .ok (.iinc 1 1, 3) := by decide +kernel
theorem dX9_putsBack_23 : decode cX9_putsBack 23 = .ok (.goto (-21), 3) := by decide +kernel
theorem dX9_putsBack_26 : decode cX9_putsBack 26 = .ok (.return_, 1) := by decide +kernel
theorem dX9_bestWord_0 : decode cX9_bestWord 0 = .ok (.aload_n 0, 1) := by decide +kernel
theorem dX9_bestWord_1 : decode cX9_bestWord 1 = .ok (.invokevirtual 238, 3) := by decide +kernel
theorem dX9_bestWord_4 : decode cX9_bestWord 4 = .ok (.bipush (-9), 2) := by decide +kernel
theorem dX9_bestWord_6 : decode cX9_bestWord 6 = .ok (.istore_n 1, 1) := by decide +kernel
theorem dX9_bestWord_7 : decode cX9_bestWord 7 = .ok (.aload_n 0, 1) := by decide +kernel
theorem dX9_bestWord_8 : decode cX9_bestWord 8 = .ok (.invokevirtual 229, 3) := by decide +kernel
theorem dX9_bestWord_11 : decode cX9_bestWord 11 = .ok (.istore_n 2, 1) := by decide +kernel
theorem dX9_bestWord_12 : decode cX9_bestWord 12 = .ok (.iconst 0, 1) := by decide +kernel
theorem dX9_bestWord_13 : decode cX9_bestWord 13 = .ok (.istore_n 3, 1) := by decide +kernel
theorem dX9_bestWord_14 : decode cX9_bestWord 14 = .ok (.iload_n 3, 1) := by decide +kernel
theorem dX9_bestWord_15 : decode cX9_bestWord 15 = .ok (.aload_n 0, 1) := by decide +kernel
theorem dX9_bestWord_16 : decode cX9_bestWord 16 = .ok (.getfield 13, 3) := by decide +kernel
theorem dX9_bestWord_19 : decode cX9_bestWord 19 = .ok (.iconst 1, 1) := by decide +kernel
theorem dX9_bestWord_20 : decode cX9_bestWord 20 = .ok (.iaload, 1) := by decide +kernel
theorem dX9_bestWord_21 : decode cX9_bestWord 21 = .ok (.if_icmp .ge 99, 3) := by decide +kernel
theorem dX9_bestWord_24 : decode cX9_bestWord 24 = .ok (.iconst 1, 1) := by decide +kernel
theorem dX9_bestWord_25 : decode cX9_bestWord 25 = .ok (.istore 4, 2) := by decide +kernel
theorem dX9_bestWord_27 : decode cX9_bestWord 27 = .ok (.iload 4, 2) := by decide +kernel
theorem dX9_bestWord_29 : decode cX9_bestWord 29 = .ok (.iconst 4, 1) := by decide +kernel
theorem dX9_bestWord_30 : decode cX9_bestWord 30 = .ok (.if_icmp .ge 25, 3) := by decide +kernel
theorem dX9_bestWord_33 : decode cX9_bestWord 33 = .ok (.aload_n 0, 1) := by decide +kernel
theorem dX9_bestWord_34 : decode cX9_bestWord 34 = .ok (.getfield 13, 3) := by decide +kernel
theorem dX9_bestWord_37 : decode cX9_bestWord 37 = .ok (.bipush 40, 2) := by decide +kernel
theorem dX9_bestWord_39 : decode cX9_bestWord 39 = .ok (.iconst 4, 1) := by decide +kernel
theorem dX9_bestWord_40 : decode cX9_bestWord 40 = .ok (.iload_n 3, 1) := by decide +kernel
theorem dX9_bestWord_41 : decode cX9_bestWord 41 = .ok (.imul, 1) := by decide +kernel
theorem dX9_bestWord_42 : decode cX9_bestWord 42 = .ok (.iadd, 1) := by decide +kernel
theorem dX9_bestWord_43 : decode cX9_bestWord 43 = .ok (.iload 4, 2) := by decide +kernel
theorem dX9_bestWord_45 : decode cX9_bestWord 45 = .ok (.iadd, 1) := by decide +kernel
theorem dX9_bestWord_46 : decode cX9_bestWord 46 = .ok (.bipush (-9), 2) := by decide +kernel
theorem dX9_bestWord_48 : decode cX9_bestWord 48 = .ok (.iastore, 1) := by decide +kernel
theorem dX9_bestWord_49 : decode cX9_bestWord 49 = .ok (.iinc 4 1, 3) := by decide +kernel
theorem dX9_bestWord_52 : decode cX9_bestWord 52 = .ok (.goto (-25), 3) := by decide +kernel
theorem dX9_bestWord_55 : decode cX9_bestWord 55 = .ok (.iconst 0, 1) := by decide +kernel
theorem dX9_bestWord_56 : decode cX9_bestWord 56 = .ok (.istore 4, 2) := by decide +kernel
theorem dX9_bestWord_58 : decode cX9_bestWord 58 = .ok (.iload 4, 2) := by decide +kernel
theorem dX9_bestWord_60 : decode cX9_bestWord 60 = .ok (.bipush 32, 2) := by decide +kernel
theorem dX9_bestWord_62 : decode cX9_bestWord 62 = .ok (.if_icmp .ge 48, 3) := by decide +kernel
theorem dX9_bestWord_65 : decode cX9_bestWord 65 = .ok (.aload_n 0, 1) := by decide +kernel
theorem dX9_bestWord_66 : decode cX9_bestWord 66 = .ok (.getfield 13, 3) := by decide +kernel
theorem dX9_bestWord_69 : decode cX9_bestWord 69 = .ok (.bipush 40, 2) := by decide +kernel
theorem dX9_bestWord_71 : decode cX9_bestWord 71 = .ok (.iconst 4, 1) := by decide +kernel
theorem dX9_bestWord_72 : decode cX9_bestWord 72 = .ok (.iload_n 3, 1) := by decide +kernel
theorem dX9_bestWord_73 : decode cX9_bestWord 73 = .ok (.imul, 1) := by decide +kernel
theorem dX9_bestWord_74 : decode cX9_bestWord 74 = .ok (.iadd, 1) := by decide +kernel
theorem dX9_bestWord_75 : decode cX9_bestWord 75 = .ok (.iload 4, 2) := by decide +kernel
theorem dX9_bestWord_77 : decode cX9_bestWord 77 = .ok (.iastore, 1) := by decide +kernel
theorem dX9_bestWord_78 : decode cX9_bestWord 78 = .ok (.aload_n 0, 1) := by decide +kernel
theorem dX9_bestWord_79 : decode cX9_bestWord 79 = .ok (.invokevirtual 229, 3) := by decide +kernel
theorem dX9_bestWord_82 : decode cX9_bestWord 82 = .ok (.istore 5, 2) := by decide +kernel
theorem dX9_bestWord_84 : decode cX9_bestWord 84 = .ok (.iload 5, 2) := by decide +kernel
theorem dX9_bestWord_86 : decode cX9_bestWord 86 = .ok (.iload_n 2, 1) := by decide +kernel
theorem dX9_bestWord_87 : decode cX9_bestWord 87 = .ok (.if_icmp .lt 6, 3) := by decide +kernel
theorem dX9_bestWord_90 : decode cX9_bestWord 90 = .ok (.goto 14, 3) := by decide +kernel
theorem dX9_bestWord_93 : decode cX9_bestWord 93 = .ok (.bipush 100, 2) := by decide +kernel
theorem dX9_bestWord_95 : decode cX9_bestWord 95 = .ok (.iload_n 3, 1) := by decide +kernel
theorem dX9_bestWord_96 : decode cX9_bestWord 96 = .ok (.imul, 1) := by decide +kernel
theorem dX9_bestWord_97 : decode cX9_bestWord 97 = .ok (.iload 4, 2) := by decide +kernel
theorem dX9_bestWord_99 : decode cX9_bestWord 99 = .ok (.iadd, 1) := by decide +kernel
theorem dX9_bestWord_100 : decode cX9_bestWord 100 = .ok (.istore_n 1, 1) := by decide +kernel
theorem dX9_bestWord_101 : decode cX9_bestWord 101 = .ok (.iload 5, 2) := by decide +kernel
theorem dX9_bestWord_103 : decode cX9_bestWord 103 = .ok (.istore_n 2, 1) := by decide +kernel
theorem dX9_bestWord_104 : decode cX9_bestWord 104 = .ok (.iinc 4 1, 3) := by decide +kernel
theorem dX9_bestWord_107 : decode cX9_bestWord 107 = .ok (.goto (-49), 3) := by decide +kernel
theorem dX9_bestWord_110 : decode cX9_bestWord 110 = .ok (.aload_n 0, 1) := by decide +kernel
theorem dX9_bestWord_111 : decode cX9_bestWord 111 = .ok (.invokevirtual 241, 3) := by decide +kernel
theorem dX9_bestWord_114 : decode cX9_bestWord 114 = .ok (.iinc 3 1, 3) := by decide +kernel
theorem dX9_bestWord_117 : decode cX9_bestWord 117 = .ok (.goto (-103), 3) := by decide +kernel
theorem dX9_bestWord_120 : decode cX9_bestWord 120 = .ok (.iload_n 1, 1) := by decide +kernel
theorem dX9_bestWord_121 : decode cX9_bestWord 121 = .ok (.ireturn, 1) := by decide +kernel
theorem dX9_fewest_0 : decode cX9_fewest 0 = .ok (.aload_n 0, 1) := by decide +kernel
theorem dX9_fewest_1 : decode cX9_fewest 1 = .ok (.getfield 13, 3) := by decide +kernel
theorem dX9_fewest_4 : decode cX9_fewest 4 = .ok (.iconst 1, 1) := by decide +kernel
theorem dX9_fewest_5 : decode cX9_fewest 5 = .ok (.iaload, 1) := by decide +kernel
theorem dX9_fewest_6 : decode cX9_fewest 6 = .ok (.ifCond .ne 8, 3) := by decide +kernel
theorem dX9_fewest_9 : decode cX9_fewest 9 = .ok (.bipush (-3), 2) := by decide +kernel
theorem dX9_fewest_11 : decode cX9_fewest 11 = .ok (.goto 13, 3) := by decide +kernel
theorem dX9_fewest_14 : decode cX9_fewest 14 = .ok (.iload_n 1, 1) := by decide +kernel
theorem dX9_fewest_15 : decode cX9_fewest 15 = .ok (.ifCond .ge 8, 3) := by decide +kernel
theorem dX9_fewest_18 : decode cX9_fewest 18 = .ok (.bipush (-4), 2) := by decide +kernel
theorem dX9_fewest_20 : decode cX9_fewest 20 = .ok (.goto 4, 3) := by decide +kernel
theorem dX9_fewest_23 : decode cX9_fewest 23 = .ok (.iconst 0, 1) := by decide +kernel
theorem dX9_fewest_24 : decode cX9_fewest 24 = .ok (.istore_n 2, 1) := by decide +kernel
theorem dX9_fewest_25 : decode cX9_fewest 25 = .ok (.iload_n 2, 1) := by decide +kernel
theorem dX9_fewest_26 : decode cX9_fewest 26 = .ok (.ifCond .eq 9, 3) := by decide +kernel
theorem dX9_fewest_29 : decode cX9_fewest 29 = .ok (.aload_n 0, 1) := by decide +kernel
theorem dX9_fewest_30 : decode cX9_fewest 30 = .ok (.iload_n 2, 1) := by decide +kernel
theorem dX9_fewest_31 : decode cX9_fewest 31 = .ok (.invokevirtual 86, 3) := by decide +kernel
theorem dX9_fewest_34 : decode cX9_fewest 34 = .ok (.ireturn, 1) := by decide +kernel
theorem dX9_fewest_35 : decode cX9_fewest 35 = .ok (.aload_n 0, 1) := by decide +kernel
theorem dX9_fewest_36 : decode cX9_fewest 36 = .ok (.getfield 13, 3) := by decide +kernel
theorem dX9_fewest_39 : decode cX9_fewest 39 = .ok (.iconst 1, 1) := by decide +kernel
theorem dX9_fewest_40 : decode cX9_fewest 40 = .ok (.iaload, 1) := by decide +kernel
theorem dX9_fewest_41 : decode cX9_fewest 41 = .ok (.istore_n 3, 1) := by decide +kernel
theorem dX9_fewest_42 : decode cX9_fewest 42 = .ok (.bipush (-9), 2) := by decide +kernel
theorem dX9_fewest_44 : decode cX9_fewest 44 = .ok (.istore 4, 2) := by decide +kernel
theorem dX9_fewest_46 : decode cX9_fewest 46 = .ok (.iconst 1, 1) := by decide +kernel
theorem dX9_fewest_47 : decode cX9_fewest 47 = .ok (.istore 5, 2) := by decide +kernel
theorem dX9_fewest_49 : decode cX9_fewest 49 = .ok (.iload 5, 2) := by decide +kernel
theorem dX9_fewest_51 : decode cX9_fewest 51 = .ok (.iload_n 3, 1) := by decide +kernel
theorem dX9_fewest_52 : decode cX9_fewest 52 = .ok (.if_icmp .gt 39, 3) := by decide +kernel
theorem dX9_fewest_55 : decode cX9_fewest 55 = .ok (.iload 4, 2) := by decide +kernel
theorem dX9_fewest_57 : decode cX9_fewest 57 = .ok (.ifCond .ge 34, 3) := by decide +kernel
theorem dX9_fewest_60 : decode cX9_fewest 60 = .ok (.aload_n 0, 1) := by decide +kernel
theorem dX9_fewest_61 : decode cX9_fewest 61 = .ok (.getfield 13, 3) := by decide +kernel
theorem dX9_fewest_64 : decode cX9_fewest 64 = .ok (.iconst 1, 1) := by decide +kernel
theorem dX9_fewest_65 : decode cX9_fewest 65 = .ok (.iload 5, 2) := by decide +kernel
theorem dX9_fewest_67 : decode cX9_fewest 67 = .ok (.iastore, 1) := by decide +kernel
theorem dX9_fewest_68 : decode cX9_fewest 68 = .ok (.aload_n 0, 1) := by decide +kernel
theorem dX9_fewest_69 : decode cX9_fewest 69 = .ok (.invokevirtual 229, 3) := by decide +kernel
theorem dX9_fewest_72 : decode cX9_fewest 72 = .ok (.iload_n 1, 1) := by decide +kernel
theorem dX9_fewest_73 : decode cX9_fewest 73 = .ok (.if_icmp .gt 8, 3) := by decide +kernel
theorem dX9_fewest_76 : decode cX9_fewest 76 = .ok (.iload 5, 2) := by decide +kernel
theorem dX9_fewest_78 : decode cX9_fewest 78 = .ok (.goto 5, 3) := by decide +kernel
theorem dX9_fewest_81 : decode cX9_fewest 81 = .ok (.bipush (-9), 2) := by decide +kernel
theorem dX9_fewest_83 : decode cX9_fewest 83 = .ok (.istore 4, 2) := by decide +kernel
theorem dX9_fewest_85 : decode cX9_fewest 85 = .ok (.iinc 5 1, 3) := by decide +kernel
theorem dX9_fewest_88 : decode cX9_fewest 88 = .ok (.goto (-39), 3) := by decide +kernel
theorem dX9_fewest_91 : decode cX9_fewest 91 = .ok (.aload_n 0, 1) := by decide +kernel
theorem dX9_fewest_92 : decode cX9_fewest 92 = .ok (.getfield 13, 3) := by decide +kernel
theorem dX9_fewest_95 : decode cX9_fewest 95 = .ok (.iconst 1, 1) := by decide +kernel
theorem dX9_fewest_96 : decode cX9_fewest 96 = .ok (.iload_n 3, 1) := by decide +kernel
theorem dX9_fewest_97 : decode cX9_fewest 97 = .ok (.iastore, 1) := by decide +kernel
theorem dX9_fewest_98 : decode cX9_fewest 98 = .ok (.iload 4, 2) := by decide +kernel
theorem dX9_fewest_100 : decode cX9_fewest 100 = .ok (.ireturn, 1) := by decide +kernel
theorem dX9_edge_0 : decode cX9_edge 0 = .ok (.aload_n 0, 1) := by decide +kernel
theorem dX9_edge_1 : decode cX9_edge 1 = .ok (.invokevirtual 238, 3) := by decide +kernel
theorem dX9_edge_4 : decode cX9_edge 4 = .ok (.bipush (-9), 2) := by decide +kernel
theorem dX9_edge_6 : decode cX9_edge 6 = .ok (.istore_n 1, 1) := by decide +kernel
theorem dX9_edge_7 : decode cX9_edge 7 = .ok (.iconst 0, 1) := by decide +kernel
theorem dX9_edge_8 : decode cX9_edge 8 = .ok (.istore_n 2, 1) := by decide +kernel
theorem dX9_edge_9 : decode cX9_edge 9 = .ok (.iload_n 2, 1) := by decide +kernel
theorem dX9_edge_10 : decode cX9_edge 10 = .ok (.bipush 60, 2) := by decide +kernel
theorem dX9_edge_12 : decode cX9_edge 12 = .ok (.if_icmp .gt 94, 3) := by decide +kernel
theorem dX9_edge_15 : decode cX9_edge 15 = .ok (.iload_n 1, 1) := by decide +kernel
theorem dX9_edge_16 : decode cX9_edge 16 = .ok (.ifCond .ge 90, 3) := by decide +kernel
theorem dX9_edge_19 : decode cX9_edge 19 = .ok (.aload_n 0, 1) := by decide +kernel
theorem dX9_edge_20 : decode cX9_edge 20 = .ok (.getfield 13, 3) := by decide +kernel
theorem dX9_edge_23 : decode cX9_edge 23 = .ok (.iconst 2, 1) := by decide +kernel
theorem dX9_edge_24 : decode cX9_edge 24 = .ok (.iload_n 2, 1) := by decide +kernel
theorem dX9_edge_25 : decode cX9_edge 25 = .ok (.iastore, 1) := by decide +kernel
theorem dX9_edge_26 : decode cX9_edge 26 = .ok (.aload_n 0, 1) := by decide +kernel
theorem dX9_edge_27 : decode cX9_edge 27 = .ok (.invokevirtual 229, 3) := by decide +kernel
theorem dX9_edge_30 : decode cX9_edge 30 = .ok (.istore_n 3, 1) := by decide +kernel
theorem dX9_edge_31 : decode cX9_edge 31 = .ok (.bipush 40, 2) := by decide +kernel
theorem dX9_edge_33 : decode cX9_edge 33 = .ok (.istore 4, 2) := by decide +kernel
theorem dX9_edge_35 : decode cX9_edge 35 = .ok (.iload 4, 2) := by decide +kernel
theorem dX9_edge_37 : decode cX9_edge 37 = .ok (.bipush 64, 2) := by decide +kernel
theorem dX9_edge_39 : decode cX9_edge 39 = .ok (.if_icmp .ge 42, 3) := by decide +kernel
theorem dX9_edge_42 : decode cX9_edge 42 = .ok (.aload_n 0, 1) := by decide +kernel
theorem dX9_edge_43 : decode cX9_edge 43 = .ok (.getfield 13, 3) := by decide +kernel
theorem dX9_edge_46 : decode cX9_edge 46 = .ok (.iload 4, 2) := by decide +kernel
theorem dX9_edge_48 : decode cX9_edge 48 = .ok (.iaload, 1) := by decide +kernel
theorem dX9_edge_49 : decode cX9_edge 49 = .ok (.ifCond .le 26, 3) := by decide +kernel
theorem dX9_edge_52 : decode cX9_edge 52 = .ok (.aload_n 0, 1) := by decide +kernel
theorem dX9_edge_53 : decode cX9_edge 53 = .ok (.getfield 13, 3) := by decide +kernel
theorem dX9_edge_56 : decode cX9_edge 56 = .ok (.iload 4, 2) := by decide +kernel
theorem dX9_edge_58 : decode cX9_edge 58 = .ok (.aload_n 0, 1) := by decide +kernel
theorem dX9_edge_59 : decode cX9_edge 59 = .ok (.getfield 13, 3) := by decide +kernel
theorem dX9_edge_62 : decode cX9_edge 62 = .ok (.iload 4, 2) := by decide +kernel
theorem dX9_edge_64 : decode cX9_edge 64 = .ok (.iaload, 1) := by decide +kernel
theorem dX9_edge_65 : decode cX9_edge 65 = .ok (.aload_n 0, 1) := by decide +kernel
theorem dX9_edge_66 : decode cX9_edge 66 = .ok (.getfield 13, 3) := by decide +kernel
theorem dX9_edge_69 : decode cX9_edge 69 = .ok (.iload 4, 2) := by decide +kernel
theorem dX9_edge_71 : decode cX9_edge 71 = .ok (.iaload, 1) := by decide +kernel
theorem dX9_edge_72 : decode cX9_edge 72 = .ok (.ineg, 1) := by decide +kernel
theorem dX9_edge_73 : decode cX9_edge 73 = .ok (.iand, 1) := by decide +kernel
theorem dX9_edge_74 : decode cX9_edge 74 = .ok (.iastore, 1) := by decide +kernel
theorem dX9_edge_75 : decode cX9_edge 75 = .ok (.iinc 4 1, 3) := by decide +kernel
theorem dX9_edge_78 : decode cX9_edge 78 = .ok (.goto (-43), 3) := by decide +kernel
theorem dX9_edge_81 : decode cX9_edge 81 = .ok (.iload_n 3, 1) := by decide +kernel
theorem dX9_edge_82 : decode cX9_edge 82 = .ok (.aload_n 0, 1) := by decide +kernel
theorem dX9_edge_83 : decode cX9_edge 83 = .ok (.invokevirtual 229, 3) := by decide +kernel
theorem dX9_edge_86 : decode cX9_edge 86 = .ok (.if_icmp .le 7, 3) := by decide +kernel
theorem dX9_edge_89 : decode cX9_edge 89 = .ok (.iload_n 2, 1) := by decide +kernel
theorem dX9_edge_90 : decode cX9_edge 90 = .ok (.goto 5, 3) := by decide +kernel
theorem dX9_edge_93 : decode cX9_edge 93 = .ok (.bipush (-9), 2) := by decide +kernel
theorem dX9_edge_95 : decode cX9_edge 95 = .ok (.istore_n 1, 1) := by decide +kernel
theorem dX9_edge_96 : decode cX9_edge 96 = .ok (.aload_n 0, 1) := by decide +kernel
theorem dX9_edge_97 : decode cX9_edge 97 = .ok (.invokevirtual 241, 3) := by decide +kernel
theorem dX9_edge_100 : decode cX9_edge 100 = .ok (.iinc 2 1, 3) := by decide +kernel
theorem dX9_edge_103 : decode cX9_edge 103 = .ok (.goto (-94), 3) := by decide +kernel
theorem dX9_edge_106 : decode cX9_edge 106 = .ok (.iload_n 1, 1) := by decide +kernel
theorem dX9_edge_107 : decode cX9_edge 107 = .ok (.ireturn, 1) := by decide +kernel
theorem dX9_bestOf_0 : decode cX9_bestOf 0 = .ok (.aload_n 0, 1) := by decide +kernel
theorem dX9_bestOf_1 : decode cX9_bestOf 1 = .ok (.getfield 13, 3) := by decide +kernel
theorem dX9_bestOf_4 : decode cX9_bestOf 4 = .ok (.iconst 2, 1) := by decide +kernel
theorem dX9_bestOf_5 : decode cX9_bestOf 5 = .ok (.iload_n 1, 1) := by decide +kernel
theorem dX9_bestOf_6 : decode cX9_bestOf 6 = .ok (.iadd, 1) := by decide +kernel
theorem dX9_bestOf_7 : decode cX9_bestOf 7 = .ok (.iaload, 1) := by decide +kernel
theorem dX9_bestOf_8 : decode cX9_bestOf 8 = .ok (.istore_n 3, 1) := by decide +kernel
theorem dX9_bestOf_9 : decode cX9_bestOf 9 = .ok (.bipush (-9), 2) := by decide +kernel
theorem dX9_bestOf_11 : decode cX9_bestOf 11 = .ok (.istore 4, 2) := by decide +kernel
theorem dX9_bestOf_13 : decode cX9_bestOf 13 = .ok (.iconst 0, 1) := by decide +kernel
theorem dX9_bestOf_14 : decode cX9_bestOf 14 = .ok (.istore 5, 2) := by decide +kernel
theorem dX9_bestOf_16 : decode cX9_bestOf 16 = .ok (.iconst 0, 1) := by decide +kernel
theorem dX9_bestOf_17 : decode cX9_bestOf 17 = .ok (.istore 6, 2) := by decide +kernel
theorem dX9_bestOf_19 : decode cX9_bestOf 19 = .ok (.iload 6, 2) := by decide +kernel
theorem dX9_bestOf_21 : decode cX9_bestOf 21 = .ok (.iload_n 2, 1) := by decide +kernel
theorem dX9_bestOf_22 : decode cX9_bestOf 22 = .ok (.if_icmp .ge 48, 3) := by decide +kernel
theorem dX9_bestOf_25 : decode cX9_bestOf 25 = .ok (.aload_n 0, 1) := by decide +kernel
theorem dX9_bestOf_26 : decode cX9_bestOf 26 = .ok (.getfield 13, 3) := by decide +kernel
theorem dX9_bestOf_29 : decode cX9_bestOf 29 = .ok (.iconst 2, 1) := by decide +kernel
theorem dX9_bestOf_30 : decode cX9_bestOf 30 = .ok (.iload_n 1, 1) := by decide +kernel
theorem dX9_bestOf_31 : decode cX9_bestOf 31 = .ok (.iadd, 1) := by decide +kernel
theorem dX9_bestOf_32 : decode cX9_bestOf 32 = .ok (.iload 6, 2) := by decide +kernel
theorem dX9_bestOf_34 : decode cX9_bestOf 34 = .ok (.iastore, 1) := by decide +kernel
theorem dX9_bestOf_35 : decode cX9_bestOf 35 = .ok (.aload_n 0, 1) := by decide +kernel
theorem dX9_bestOf_36 : decode cX9_bestOf 36 = .ok (.invokevirtual 229, 3) := by decide +kernel
theorem dX9_bestOf_39 : decode cX9_bestOf 39 = .ok (.istore 7, 2) := by decide +kernel
theorem dX9_bestOf_41 : decode cX9_bestOf 41 = .ok (.iload 4, 2) := by decide +kernel
theorem dX9_bestOf_43 : decode cX9_bestOf 43 = .ok (.ifCond .lt 13, 3) := by decide +kernel
theorem dX9_bestOf_46 : decode cX9_bestOf 46 = .ok (.iload 7, 2) := by decide +kernel
theorem dX9_bestOf_48 : decode cX9_bestOf 48 = .ok (.iload 5, 2) := by decide +kernel
theorem dX9_bestOf_50 : decode cX9_bestOf 50 = .ok (.if_icmp .lt 6, 3) := by decide +kernel
theorem dX9_bestOf_53 : decode cX9_bestOf 53 = .ok (.goto 11, 3) := by decide +kernel
theorem dX9_bestOf_56 : decode cX9_bestOf 56 = .ok (.iload 6, 2) := by decide +kernel
theorem dX9_bestOf_58 : decode cX9_bestOf 58 = .ok (.istore 4, 2) := by decide +kernel
theorem dX9_bestOf_60 : decode cX9_bestOf 60 = .ok (.iload 7, 2) := by decide +kernel
theorem dX9_bestOf_62 : decode cX9_bestOf 62 = .ok (.istore 5, 2) := by decide +kernel
theorem dX9_bestOf_64 : decode cX9_bestOf 64 = .ok (.iinc 6 1, 3) := by decide +kernel
theorem dX9_bestOf_67 : decode cX9_bestOf 67 = .ok (.goto (-48), 3) := by decide +kernel
theorem dX9_bestOf_70 : decode cX9_bestOf 70 = .ok (.aload_n 0, 1) := by decide +kernel
theorem dX9_bestOf_71 : decode cX9_bestOf 71 = .ok (.getfield 13, 3) := by decide +kernel
theorem dX9_bestOf_74 : decode cX9_bestOf 74 = .ok (.iconst 2, 1) := by decide +kernel
theorem dX9_bestOf_75 : decode cX9_bestOf 75 = .ok (.iload_n 1, 1) := by decide +kernel
theorem dX9_bestOf_76 : decode cX9_bestOf 76 = .ok (.iadd, 1) := by decide +kernel
theorem dX9_bestOf_77 : decode cX9_bestOf 77 = .ok (.iload_n 3, 1) := by decide +kernel
theorem dX9_bestOf_78 : decode cX9_bestOf 78 = .ok (.iastore, 1) := by decide +kernel
theorem dX9_bestOf_79 : decode cX9_bestOf 79 = .ok (.iload 4, 2) := by decide +kernel
theorem dX9_bestOf_81 : decode cX9_bestOf 81 = .ok (.ireturn, 1) := by decide +kernel
theorem dX9_signs_0 : decode cX9_signs 0 = .ok (.aload_n 0, 1) := by decide +kernel
theorem dX9_signs_1 : decode cX9_signs 1 = .ok (.bipush 7, 2) := by decide +kernel
theorem dX9_signs_3 : decode cX9_signs 3 = .ok (.bipush 10, 2) := by decide +kernel
theorem dX9_signs_5 : decode cX9_signs 5 = .ok (.invokevirtual 244, 3) := by decide +kernel
theorem dX9_signs_8 : decode cX9_signs 8 = .ok (.ireturn, 1) := by decide +kernel
theorem dX9_bestRule_0 : decode cX9_bestRule 0 = .ok (.aload_n 0, 1) := by decide +kernel
theorem dX9_bestRule_1 : decode cX9_bestRule 1 = .ok (.iconst 4, 1) := by decide +kernel
theorem dX9_bestRule_2 : decode cX9_bestRule 2 = .ok (.iconst 5, 1) := by decide +kernel
theorem dX9_bestRule_3 : decode cX9_bestRule 3 = .ok (.invokevirtual 244, 3) := by decide +kernel
theorem dX9_bestRule_6 : decode cX9_bestRule 6 = .ok (.ireturn, 1) := by decide +kernel
theorem dX9_buys_0 : decode cX9_buys 0 = .ok (.aload_n 0, 1) := by decide +kernel
theorem dX9_buys_1 : decode cX9_buys 1 = .ok (.iload_n 1, 1) := by decide +kernel
theorem dX9_buys_2 : decode cX9_buys 2 = .ok (.invokevirtual 123, 3) := by decide +kernel
theorem dX9_buys_5 : decode cX9_buys 5 = .ok (.ifCond .eq 26, 3) := by decide +kernel
theorem dX9_buys_8 : decode cX9_buys 8 = .ok (.aload_n 0, 1) := by decide +kernel
theorem dX9_buys_9 : decode cX9_buys 9 = .ok (.iload_n 2, 1) := by decide +kernel
theorem dX9_buys_10 : decode cX9_buys 10 = .ok (.invokevirtual 123, 3) := by decide +kernel
theorem dX9_buys_13 : decode cX9_buys 13 = .ok (.ifCond .eq 18, 3) := by decide +kernel
theorem dX9_buys_16 : decode cX9_buys 16 = .ok (.iload_n 1, 1) := by decide +kernel
theorem dX9_buys_17 : decode cX9_buys 17 = .ok (.iload_n 2, 1) := by decide +kernel
theorem dX9_buys_18 : decode cX9_buys 18 = .ok (.if_icmp .eq 13, 3) := by decide +kernel
theorem dX9_buys_21 : decode cX9_buys 21 = .ok (.iload_n 3, 1) := by decide +kernel
theorem dX9_buys_22 : decode cX9_buys 22 = .ok (.iconst 0, 1) := by decide +kernel
theorem dX9_buys_23 : decode cX9_buys 23 = .ok (.bipush 100, 2) := by decide +kernel
theorem dX9_buys_25 : decode cX9_buys 25 = .ok (.invokestatic 133, 3) := by decide +kernel
theorem dX9_buys_28 : decode cX9_buys 28 = .ok (.goto 4, 3) := by decide +kernel
theorem dX9_buys_31 : decode cX9_buys 31 = .ok (.iconst (-1), 1) := by decide +kernel
theorem dX9_buys_32 : decode cX9_buys 32 = .ok (.istore 4, 2) := by decide +kernel
theorem dX9_buys_34 : decode cX9_buys 34 = .ok (.iload 4, 2) := by decide +kernel
theorem dX9_buys_36 : decode cX9_buys 36 = .ok (.ifCond .eq 13, 3) := by decide +kernel
theorem dX9_buys_39 : decode cX9_buys 39 = .ok (.ldc 247, 2) := by decide +kernel
theorem dX9_buys_41 : decode cX9_buys 41 = .ok (.aload_n 0, 1) := by decide +kernel
theorem dX9_buys_42 : decode cX9_buys 42 = .ok (.iload 4, 2) := by decide +kernel
theorem dX9_buys_44 : decode cX9_buys 44 = .ok (.invokevirtual 86, 3) := by decide +kernel
theorem dX9_buys_47 : decode cX9_buys 47 = .ok (.isub, 1) := by decide +kernel
theorem dX9_buys_48 : decode cX9_buys 48 = .ok (.ireturn, 1) := by decide +kernel
theorem dX9_buys_49 : decode cX9_buys 49 = .ok (.aload_n 0, 1) := by decide +kernel
theorem dX9_buys_50 : decode cX9_buys 50 = .ok (.invokevirtual 229, 3) := by decide +kernel
theorem dX9_buys_53 : decode cX9_buys 53 = .ok (.istore 5, 2) := by decide +kernel
theorem dX9_buys_55 : decode cX9_buys 55 = .ok (.aload_n 0, 1) := by decide +kernel
theorem dX9_buys_56 : decode cX9_buys 56 = .ok (.invokevirtual 238, 3) := by decide +kernel
theorem dX9_buys_59 : decode cX9_buys 59 = .ok (.iconst 0, 1) := by decide +kernel
theorem dX9_buys_60 : decode cX9_buys 60 = .ok (.istore 6, 2) := by decide +kernel
theorem dX9_buys_62 : decode cX9_buys 62 = .ok (.iload 6, 2) := by decide +kernel
theorem dX9_buys_64 : decode cX9_buys 64 = .ok (.iconst 4, 1) := by decide +kernel
theorem dX9_buys_65 : decode cX9_buys 65 = .ok (.if_icmp .ge 67, 3) := by decide +kernel
theorem dX9_buys_68 : decode cX9_buys 68 = .ok (.aload_n 0, 1) := by decide +kernel
theorem dX9_buys_69 : decode cX9_buys 69 = .ok (.iload 6, 2) := by decide +kernel
theorem dX9_buys_71 : decode cX9_buys 71 = .ok (.iload_n 1, 1) := by decide +kernel
theorem dX9_buys_72 : decode cX9_buys 72 = .ok (.invokevirtual 181, 3) := by decide +kernel
theorem dX9_buys_75 : decode cX9_buys 75 = .ok (.iload_n 3, 1) := by decide +kernel
theorem dX9_buys_76 : decode cX9_buys 76 = .ok (.imul, 1) := by decide +kernel
theorem dX9_buys_77 : decode cX9_buys 77 = .ok (.bipush 100, 2) := by decide +kernel
theorem dX9_buys_79 : decode cX9_buys 79 = .ok (.idiv, 1) := by decide +kernel
theorem dX9_buys_80 : decode cX9_buys 80 = .ok (.istore 7, 2) := by decide +kernel
theorem dX9_buys_82 : decode cX9_buys 82 = .ok (.aload_n 0, 1) := by decide +kernel
theorem dX9_buys_83 : decode cX9_buys 83 = .ok (.getfield 13, 3) := by decide +kernel
theorem dX9_buys_86 : decode cX9_buys 86 = .ok (.bipush 10, 2) := by decide +kernel
theorem dX9_buys_88 : decode cX9_buys 88 = .ok (.bipush 6, 2) := by decide +kernel
theorem dX9_buys_90 : decode cX9_buys 90 = .ok (.iload_n 1, 1) := by decide +kernel
theorem dX9_buys_91 : decode cX9_buys 91 = .ok (.imul, 1) := by decide +kernel
theorem dX9_buys_92 : decode cX9_buys 92 = .ok (.iadd, 1) := by decide +kernel
theorem dX9_buys_93 : decode cX9_buys 93 = .ok (.iconst 2, 1) := by decide +kernel
theorem dX9_buys_94 : decode cX9_buys 94 = .ok (.iadd, 1) := by decide +kernel
theorem dX9_buys_95 : decode cX9_buys 95 = .ok (.iload 6, 2) := by decide +kernel
theorem dX9_buys_97 : decode cX9_buys 97 = .ok (.iadd, 1) := by decide +kernel
theorem dX9_buys_98 : decode cX9_buys 98 = .ok (.dup2, 1) := by decide +kernel
theorem dX9_buys_99 : decode cX9_buys 99 = .ok (.iaload, 1) := by decide +kernel
theorem dX9_buys_100 : decode cX9_buys 100 = .ok (.iload 7, 2) := by decide +kernel
theorem dX9_buys_102 : decode cX9_buys 102 = .ok (.isub, 1) := by decide +kernel
theorem dX9_buys_103 : decode cX9_buys 103 = .ok (.iastore, 1) := by decide +kernel
theorem dX9_buys_104 : decode cX9_buys 104 = .ok (.aload_n 0, 1) := by decide +kernel
theorem dX9_buys_105 : decode cX9_buys 105 = .ok (.getfield 13, 3) := by decide +kernel
theorem dX9_buys_108 : decode cX9_buys 108 = .ok (.bipush 10, 2) := by decide +kernel
theorem dX9_buys_110 : decode cX9_buys 110 = .ok (.bipush 6, 2) := by decide +kernel
theorem dX9_buys_112 : decode cX9_buys 112 = .ok (.iload_n 2, 1) := by decide +kernel
theorem dX9_buys_113 : decode cX9_buys 113 = .ok (.imul, 1) := by decide +kernel
theorem dX9_buys_114 : decode cX9_buys 114 = .ok (.iadd, 1) := by decide +kernel
theorem dX9_buys_115 : decode cX9_buys 115 = .ok (.iconst 2, 1) := by decide +kernel
theorem dX9_buys_116 : decode cX9_buys 116 = .ok (.iadd, 1) := by decide +kernel
theorem dX9_buys_117 : decode cX9_buys 117 = .ok (.iload 6, 2) := by decide +kernel
theorem dX9_buys_119 : decode cX9_buys 119 = .ok (.iadd, 1) := by decide +kernel
theorem dX9_buys_120 : decode cX9_buys 120 = .ok (.dup2, 1) := by decide +kernel
theorem dX9_buys_121 : decode cX9_buys 121 = .ok (.iaload, 1) := by decide +kernel
theorem dX9_buys_122 : decode cX9_buys 122 = .ok (.iload 7, 2) := by decide +kernel
theorem dX9_buys_124 : decode cX9_buys 124 = .ok (.iadd, 1) := by decide +kernel
theorem dX9_buys_125 : decode cX9_buys 125 = .ok (.iastore, 1) := by decide +kernel
theorem dX9_buys_126 : decode cX9_buys 126 = .ok (.iinc 6 1, 3) := by decide +kernel
theorem dX9_buys_129 : decode cX9_buys 129 = .ok (.goto (-67), 3) := by decide +kernel
theorem dX9_buys_132 : decode cX9_buys 132 = .ok (.aload_n 0, 1) := by decide +kernel
theorem dX9_buys_133 : decode cX9_buys 133 = .ok (.invokevirtual 229, 3) := by decide +kernel
theorem dX9_buys_136 : decode cX9_buys 136 = .ok (.istore 6, 2) := by decide +kernel
theorem dX9_buys_138 : decode cX9_buys 138 = .ok (.aload_n 0, 1) := by decide +kernel
theorem dX9_buys_139 : decode cX9_buys 139 = .ok (.invokevirtual 241, 3) := by decide +kernel
theorem dX9_buys_142 : decode cX9_buys 142 = .ok (.iload 5, 2) := by decide +kernel
theorem dX9_buys_144 : decode cX9_buys 144 = .ok (.iload 6, 2) := by decide +kernel
theorem dX9_buys_146 : decode cX9_buys 146 = .ok (.isub, 1) := by decide +kernel
theorem dX9_buys_147 : decode cX9_buys 147 = .ok (.ireturn, 1) := by decide +kernel
theorem dX9_fails_0 : decode cX9_fails 0 = .ok (.aload_n 0, 1) := by decide +kernel
theorem dX9_fails_1 : decode cX9_fails 1 = .ok (.iload_n 1, 1) := by decide +kernel
theorem dX9_fails_2 : decode cX9_fails 2 = .ok (.invokevirtual 123, 3) := by decide +kernel
theorem dX9_fails_5 : decode cX9_fails 5 = .ok (.ifCond .eq 21, 3) := by decide +kernel
theorem dX9_fails_8 : decode cX9_fails 8 = .ok (.iload_n 2, 1) := by decide +kernel
theorem dX9_fails_9 : decode cX9_fails 9 = .ok (.iconst 4, 1) := by decide +kernel
theorem dX9_fails_10 : decode cX9_fails 10 = .ok (.invokestatic 82, 3) := by decide +kernel
theorem dX9_fails_13 : decode cX9_fails 13 = .ok (.ifCond .eq 13, 3) := by decide +kernel
theorem dX9_fails_16 : decode cX9_fails 16 = .ok (.iload_n 3, 1) := by decide +kernel
theorem dX9_fails_17 : decode cX9_fails 17 = .ok (.iconst 1, 1) := by decide +kernel
theorem dX9_fails_18 : decode cX9_fails 18 = .ok (.bipush 99, 2) := by decide +kernel
theorem dX9_fails_20 : decode cX9_fails 20 = .ok (.invokestatic 133, 3) := by decide +kernel
theorem dX9_fails_23 : decode cX9_fails 23 = .ok (.goto 4, 3) := by decide +kernel
theorem dX9_fails_26 : decode cX9_fails 26 = .ok (.iconst (-1), 1) := by decide +kernel
theorem dX9_fails_27 : decode cX9_fails 27 = .ok (.istore 4, 2) := by decide +kernel
theorem dX9_fails_29 : decode cX9_fails 29 = .ok (.iload 4, 2) := by decide +kernel
theorem dX9_fails_31 : decode cX9_fails 31 = .ok (.ifCond .eq 13, 3) := by decide +kernel
theorem dX9_fails_34 : decode cX9_fails 34 = .ok (.ldc 247, 2) := by decide +kernel
theorem dX9_fails_36 : decode cX9_fails 36 = .ok (.aload_n 0, 1) := by decide +kernel
theorem dX9_fails_37 : decode cX9_fails 37 = .ok (.iload 4, 2) := by decide +kernel
theorem dX9_fails_39 : decode cX9_fails 39 = .ok (.invokevirtual 86, 3) := by decide +kernel
theorem dX9_fails_42 : decode cX9_fails 42 = .ok (.isub, 1) := by decide +kernel
theorem dX9_fails_43 : decode cX9_fails 43 = .ok (.ireturn, 1) := by decide +kernel
theorem dX9_fails_44 : decode cX9_fails 44 = .ok (.aload_n 0, 1) := by decide +kernel
theorem dX9_fails_45 : decode cX9_fails 45 = .ok (.invokevirtual 229, 3) := by decide +kernel
theorem dX9_fails_48 : decode cX9_fails 48 = .ok (.istore 5, 2) := by decide +kernel
theorem dX9_fails_50 : decode cX9_fails 50 = .ok (.aload_n 0, 1) := by decide +kernel
theorem dX9_fails_51 : decode cX9_fails 51 = .ok (.iload_n 1, 1) := by decide +kernel
theorem dX9_fails_52 : decode cX9_fails 52 = .ok (.putfield 184, 3) := by decide +kernel
theorem dX9_fails_55 : decode cX9_fails 55 = .ok (.aload_n 0, 1) := by decide +kernel
theorem dX9_fails_56 : decode cX9_fails 56 = .ok (.iload_n 2, 1) := by decide +kernel
theorem dX9_fails_57 : decode cX9_fails 57 = .ok (.putfield 187, 3) := by decide +kernel
theorem dX9_fails_60 : decode cX9_fails 60 = .ok (.aload_n 0, 1) := by decide +kernel
theorem dX9_fails_61 : decode cX9_fails 61 = .ok (.iload_n 3, 1) := by decide +kernel
theorem dX9_fails_62 : decode cX9_fails 62 = .ok (.putfield 190, 3) := by decide +kernel
theorem dX9_fails_65 : decode cX9_fails 65 = .ok (.aload_n 0, 1) := by decide +kernel
theorem dX9_fails_66 : decode cX9_fails 66 = .ok (.invokevirtual 220, 3) := by decide +kernel
theorem dX9_fails_69 : decode cX9_fails 69 = .ok (.iload 5, 2) := by decide +kernel
theorem dX9_fails_71 : decode cX9_fails 71 = .ok (.isub, 1) := by decide +kernel
theorem dX9_fails_72 : decode cX9_fails 72 = .ok (.ireturn, 1) := by decide +kernel
theorem dX9_weaveOf_0 : decode cX9_weaveOf 0 = .ok (.iconst 0, 1) := by decide +kernel
theorem dX9_weaveOf_1 : decode cX9_weaveOf 1 = .ok (.istore_n 1, 1) := by decide +kernel
theorem dX9_weaveOf_2 : decode cX9_weaveOf 2 = .ok (.iconst 1, 1) := by decide +kernel
theorem dX9_weaveOf_3 : decode cX9_weaveOf 3 = .ok (.istore_n 2, 1) := by decide +kernel
theorem dX9_weaveOf_4 : decode cX9_weaveOf 4 = .ok (.iload_n 2, 1) := by decide +kernel
theorem dX9_weaveOf_5 : decode cX9_weaveOf 5 = .ok (.aload_n 0, 1) := by decide +kernel
theorem dX9_weaveOf_6 : decode cX9_weaveOf 6 = .ok (.getfield 13, 3) := by decide +kernel
theorem dX9_weaveOf_9 : decode cX9_weaveOf 9 = .ok (.iconst 1, 1) := by decide +kernel
theorem dX9_weaveOf_10 : decode cX9_weaveOf 10 = .ok (.iaload, 1) := by decide +kernel
theorem dX9_weaveOf_11 : decode cX9_weaveOf 11 = .ok (.if_icmp .ge 40, 3) := by decide +kernel
theorem dX9_weaveOf_14 : decode cX9_weaveOf 14 = .ok (.iload_n 1, 1) := by decide +kernel
theorem dX9_weaveOf_15 : decode cX9_weaveOf 15 = .ok (.aload_n 0, 1) := by decide +kernel
theorem dX9_weaveOf_16 : decode cX9_weaveOf 16 = .ok (.aload_n 0, 1) := by decide +kernel
theorem dX9_weaveOf_17 : decode cX9_weaveOf 17 = .ok (.getfield 70, 3) := by decide +kernel
theorem dX9_weaveOf_20 : decode cX9_weaveOf 20 = .ok (.iload_n 2, 1) := by decide +kernel
theorem dX9_weaveOf_21 : decode cX9_weaveOf 21 = .ok (.iconst 1, 1) := by decide +kernel
theorem dX9_weaveOf_22 : decode cX9_weaveOf 22 = .ok (.isub, 1) := by decide +kernel
theorem dX9_weaveOf_23 : decode cX9_weaveOf 23 = .ok (.iaload, 1) := by decide +kernel
theorem dX9_weaveOf_24 : decode cX9_weaveOf 24 = .ok (.iconst 0, 1) := by decide +kernel
theorem dX9_weaveOf_25 : decode cX9_weaveOf 25 = .ok (.invokevirtual 129, 3) := by decide +kernel
theorem dX9_weaveOf_28 : decode cX9_weaveOf 28 = .ok (.aload_n 0, 1) := by decide +kernel
theorem dX9_weaveOf_29 : decode cX9_weaveOf 29 = .ok (.aload_n 0, 1) := by decide +kernel
theorem dX9_weaveOf_30 : decode cX9_weaveOf 30 = .ok (.getfield 70, 3) := by decide +kernel
theorem dX9_weaveOf_33 : decode cX9_weaveOf 33 = .ok (.iload_n 2, 1) := by decide +kernel
theorem dX9_weaveOf_34 : decode cX9_weaveOf 34 = .ok (.iaload, 1) := by decide +kernel
theorem dX9_weaveOf_35 : decode cX9_weaveOf 35 = .ok (.iconst 0, 1) := by decide +kernel
theorem dX9_weaveOf_36 : decode cX9_weaveOf 36 = .ok (.invokevirtual 129, 3) := by decide +kernel
theorem dX9_weaveOf_39 : decode cX9_weaveOf 39 = .ok (.ixor, 1) := by decide +kernel
theorem dX9_weaveOf_40 : decode cX9_weaveOf 40 = .ok (.invokestatic 152, 3) := by decide +kernel
theorem dX9_weaveOf_43 : decode cX9_weaveOf 43 = .ok (.iadd, 1) := by decide +kernel
theorem dX9_weaveOf_44 : decode cX9_weaveOf 44 = .ok (.istore_n 1, 1) := by decide +kernel
theorem dX9_weaveOf_45 : decode cX9_weaveOf 45 = .ok (.iinc 2 1, 3) := by decide +kernel
theorem dX9_weaveOf_48 : decode cX9_weaveOf 48 = .ok (.goto (-44), 3) := by decide +kernel
theorem dX9_weaveOf_51 : decode cX9_weaveOf 51 = .ok (.iload_n 1, 1) := by decide +kernel
theorem dX9_weaveOf_52 : decode cX9_weaveOf 52 = .ok (.ireturn, 1) := by decide +kernel
theorem dX9_weave_0 : decode cX9_weave 0 = .ok (.iconst 0, 1) := by decide +kernel
theorem dX9_weave_1 : decode cX9_weave 1 = .ok (.istore_n 1, 1) := by decide +kernel
theorem dX9_weave_2 : decode cX9_weave 2 = .ok (.iload_n 1, 1) := by decide +kernel
theorem dX9_weave_3 : decode cX9_weave 3 = .ok (.bipush 6, 2) := by decide +kernel
theorem dX9_weave_5 : decode cX9_weave 5 = .ok (.if_icmp .ge 16, 3) := by decide +kernel
theorem dX9_weave_8 : decode cX9_weave 8 = .ok (.aload_n 0, 1) := by decide +kernel
theorem dX9_weave_9 : decode cX9_weave 9 = .ok (.getfield 70, 3) := by decide +kernel
theorem dX9_weave_12 : decode cX9_weave 12 = .ok (.iload_n 1, 1) := by decide +kernel
theorem dX9_weave_13 : decode cX9_weave 13 = .ok (.iload_n 1, 1) := by decide +kernel
theorem dX9_weave_14 : decode cX9_weave 14 = .ok (.iastore, 1) := by decide +kernel
theorem dX9_weave_15 : decode cX9_weave 15 = .ok (.iinc 1 1, 3) := by decide +kernel
theorem dX9_weave_18 : decode cX9_weave 18 = .ok (.goto (-16), 3) := by decide +kernel
theorem dX9_weave_21 : decode cX9_weave 21 = .ok (.aload_n 0, 1) := by decide +kernel
theorem dX9_weave_22 : decode cX9_weave 22 = .ok (.invokevirtual 248, 3) := by decide +kernel
theorem dX9_weave_25 : decode cX9_weave 25 = .ok (.ireturn, 1) := by decide +kernel
theorem dX9_orders_0 : decode cX9_orders 0 = .ok (.iload_n 1, 1) := by decide +kernel
theorem dX9_orders_1 : decode cX9_orders 1 = .ok (.aload_n 0, 1) := by decide +kernel
theorem dX9_orders_2 : decode cX9_orders 2 = .ok (.getfield 13, 3) := by decide +kernel
theorem dX9_orders_5 : decode cX9_orders 5 = .ok (.iconst 1, 1) := by decide +kernel
theorem dX9_orders_6 : decode cX9_orders 6 = .ok (.iaload, 1) := by decide +kernel
theorem dX9_orders_7 : decode cX9_orders 7 = .ok (.if_icmp .ne 59, 3) := by decide +kernel
theorem dX9_orders_10 : decode cX9_orders 10 = .ok (.aload_n 0, 1) := by decide +kernel
theorem dX9_orders_11 : decode cX9_orders 11 = .ok (.invokevirtual 248, 3) := by decide +kernel
theorem dX9_orders_14 : decode cX9_orders 14 = .ok (.istore_n 3, 1) := by decide +kernel
theorem dX9_orders_15 : decode cX9_orders 15 = .ok (.aload_n 0, 1) := by decide +kernel
theorem dX9_orders_16 : decode cX9_orders 16 = .ok (.getfield 251, 3) := by decide +kernel
theorem dX9_orders_19 : decode cX9_orders 19 = .ok (.ifCond .lt 12, 3) := by decide +kernel
theorem dX9_orders_22 : decode cX9_orders 22 = .ok (.iload_n 3, 1) := by decide +kernel
theorem dX9_orders_23 : decode cX9_orders 23 = .ok (.aload_n 0, 1) := by decide +kernel
theorem dX9_orders_24 : decode cX9_orders 24 = .ok (.getfield 251, 3) := by decide +kernel
theorem dX9_orders_27 : decode cX9_orders 27 = .ok (.if_icmp .lt 4, 3) := by decide +kernel
theorem dX9_orders_30 : decode cX9_orders 30 = .ok (.return_, 1) := by decide +kernel
theorem dX9_orders_31 : decode cX9_orders 31 = .ok (.aload_n 0, 1) := by decide +kernel
theorem dX9_orders_32 : decode cX9_orders 32 = .ok (.iload_n 3, 1) := by decide +kernel
theorem dX9_orders_33 : decode cX9_orders 33 = .ok (.putfield 251, 3) := by decide +kernel
theorem dX9_orders_36 : decode cX9_orders 36 = .ok (.iconst 0, 1) := by decide +kernel
theorem dX9_orders_37 : decode cX9_orders 37 = .ok (.istore 4, 2) := by decide +kernel
theorem dX9_orders_39 : decode cX9_orders 39 = .ok (.iload 4, 2) := by decide +kernel
theorem dX9_orders_41 : decode cX9_orders 41 = .ok (.iload_n 1, 1) := by decide +kernel
theorem dX9_orders_42 : decode cX9_orders 42 = .ok (.if_icmp .ge 23, 3) := by decide +kernel
theorem dX9_orders_45 : decode cX9_orders 45 = .ok (.aload_n 0, 1) := by decide +kernel
theorem dX9_orders_46 : decode cX9_orders 46 = .ok (.getfield 73, 3) := by decide +kernel
theorem dX9_orders_49 : decode cX9_orders 49 = .ok (.iload 4, 2) := by decide +kernel
theorem dX9_orders_51 : decode cX9_orders 51 = .ok (.aload_n 0, 1) := by decide +kernel
theorem dX9_orders_52 : decode cX9_orders 52 = .ok (.getfield 70, 3) := by decide +kernel
theorem dX9_orders_55 : decode cX9_orders 55 = .ok (.iload 4, 2) := by decide +kernel
theorem dX9_orders_57 : decode cX9_orders 57 = .ok (.iaload, 1) := by decide +kernel
theorem dX9_orders_58 : decode cX9_orders 58 = .ok (.iastore, 1) := by decide +kernel
theorem dX9_orders_59 : decode cX9_orders 59 = .ok (.iinc 4 1, 3) := by decide +kernel
theorem dX9_orders_62 : decode cX9_orders 62 = .ok (.goto (-23), 3) := by decide +kernel
theorem dX9_orders_65 : decode cX9_orders 65 = .ok (.return_, 1) := by decide +kernel
theorem dX9_orders_66 : decode cX9_orders 66 = .ok (.iconst 0, 1) := by decide +kernel
theorem dX9_orders_67 : decode cX9_orders 67 = .ok (.istore_n 3, 1) := by decide +kernel
theorem dX9_orders_68 : decode cX9_orders 68 = .ok (.iload_n 3, 1) := by decide +kernel
theorem dX9_orders_69 : decode cX9_orders 69 = .ok (.aload_n 0, 1) := by decide +kernel
theorem dX9_orders_70 : decode cX9_orders 70 = .ok (.getfield 13, 3) := by decide +kernel
theorem dX9_orders_73 : decode cX9_orders 73 = .ok (.iconst 1, 1) := by decide +kernel
theorem dX9_orders_74 : decode cX9_orders 74 = .ok (.iaload, 1) := by decide +kernel
theorem dX9_orders_75 : decode cX9_orders 75 = .ok (.if_icmp .ge 40, 3) := by decide +kernel
theorem dX9_orders_78 : decode cX9_orders 78 = .ok (.iload_n 2, 1) := by decide +kernel
theorem dX9_orders_79 : decode cX9_orders 79 = .ok (.iload_n 3, 1) := by decide +kernel
theorem dX9_orders_80 : decode cX9_orders 80 = .ok (.ishr, 1) := by decide +kernel
theorem dX9_orders_81 : decode cX9_orders 81 = .ok (.iconst 1, 1) := by decide +kernel
theorem dX9_orders_82 : decode cX9_orders 82 = .ok (.iand, 1) := by decide +kernel
theorem dX9_orders_83 : decode cX9_orders 83 = .ok (.iconst 1, 1) := by decide +kernel
theorem dX9_orders_84 : decode cX9_orders 84 = .ok (.if_icmp .ne 6, 3) := by decide +kernel
theorem dX9_orders_87 : decode cX9_orders 87 = .ok (.goto 22, 3) := by decide +kernel
theorem dX9_orders_90 : decode cX9_orders 90 = .ok (.aload_n 0, 1) := by decide +kernel
theorem dX9_orders_91 : decode cX9_orders 91 = .ok (.getfield 70, 3) := by decide +kernel
theorem dX9_orders_94 : decode cX9_orders 94 = .ok (.iload_n 1, 1) := by decide +kernel
theorem dX9_orders_95 : decode cX9_orders 95 = .ok (.iload_n 3, 1) := by decide +kernel
theorem dX9_orders_96 : decode cX9_orders 96 = .ok (.iastore, 1) := by decide +kernel
theorem dX9_orders_97 : decode cX9_orders 97 = .ok (.aload_n 0, 1) := by decide +kernel
theorem dX9_orders_98 : decode cX9_orders 98 = .ok (.iload_n 1, 1) := by decide +kernel
theorem dX9_orders_99 : decode cX9_orders 99 = .ok (.iconst 1, 1) := by decide +kernel
theorem dX9_orders_100 : decode cX9_orders 100 = .ok (.iadd, 1) := by decide +kernel
theorem dX9_orders_101 : decode cX9_orders 101 = .ok (.iload_n 2, 1) := by decide +kernel
theorem dX9_orders_102 : decode cX9_orders 102 = .ok (.iconst 1, 1) := by decide +kernel
theorem dX9_orders_103 : decode cX9_orders 103 = .ok (.iload_n 3, 1) := by decide +kernel
theorem dX9_orders_104 : decode cX9_orders 104 = .ok (.ishl, 1) := by decide +kernel
theorem dX9_orders_105 : decode cX9_orders 105 = .ok (.ior, 1) := by decide +kernel
theorem dX9_orders_106 : decode cX9_orders 106 = .ok (.invokevirtual 254, 3) := by decide +kernel
theorem dX9_orders_109 : decode cX9_orders 109 = .ok (.iinc 3 1, 3) := by decide +kernel
theorem dX9_orders_112 : decode cX9_orders 112 = .ok (.goto (-44), 3) := by decide +kernel
theorem dX9_orders_115 : decode cX9_orders 115 = .ok (.return_, 1) := by decide +kernel
theorem dX9_order_0 : decode cX9_order 0 = .ok (.iload_n 1, 1) := by decide +kernel
theorem dX9_order_1 : decode cX9_order 1 = .ok (.iconst (-1), 1) := by decide +kernel
theorem dX9_order_2 : decode cX9_order 2 = .ok (.if_icmp .ge 10, 3) := by decide +kernel
theorem dX9_order_5 : decode cX9_order 5 = .ok (.aload_n 0, 1) := by decide +kernel
theorem dX9_order_6 : decode cX9_order 6 = .ok (.bipush (-4), 2) := by decide +kernel
theorem dX9_order_8 : decode cX9_order 8 = .ok (.invokevirtual 86, 3) := by decide +kernel
theorem dX9_order_11 : decode cX9_order 11 = .ok (.ireturn, 1) := by decide +kernel
theorem dX9_order_12 : decode cX9_order 12 = .ok (.aload_n 0, 1) := by decide +kernel
theorem dX9_order_13 : decode cX9_order 13 = .ok (.bipush (-9), 2) := by decide +kernel
theorem dX9_order_15 : decode cX9_order 15 = .ok (.putfield 251, 3) := by decide +kernel
theorem dX9_order_18 : decode cX9_order 18 = .ok (.aload_n 0, 1) := by decide +kernel
theorem dX9_order_19 : decode cX9_order 19 = .ok (.iconst 0, 1) := by decide +kernel
theorem dX9_order_20 : decode cX9_order 20 = .ok (.iconst 0, 1) := by decide +kernel
theorem dX9_order_21 : decode cX9_order 21 = .ok (.invokevirtual 254, 3) := by decide +kernel
theorem dX9_order_24 : decode cX9_order 24 = .ok (.iload_n 1, 1) := by decide +kernel
theorem dX9_order_25 : decode cX9_order 25 = .ok (.ifCond .ge 10, 3) := by decide +kernel
theorem dX9_order_28 : decode cX9_order 28 = .ok (.aload_n 0, 1) := by decide +kernel
theorem dX9_order_29 : decode cX9_order 29 = .ok (.getfield 251, 3) := by decide +kernel
theorem dX9_order_32 : decode cX9_order 32 = .ok (.goto 24, 3) := by decide +kernel
theorem dX9_order_35 : decode cX9_order 35 = .ok (.iload_n 1, 1) := by decide +kernel
theorem dX9_order_36 : decode cX9_order 36 = .ok (.aload_n 0, 1) := by decide +kernel
theorem dX9_order_37 : decode cX9_order 37 = .ok (.getfield 13, 3) := by decide +kernel
theorem dX9_order_40 : decode cX9_order 40 = .ok (.iconst 1, 1) := by decide +kernel
theorem dX9_order_41 : decode cX9_order 41 = .ok (.iaload, 1) := by decide +kernel
theorem dX9_order_42 : decode cX9_order 42 = .ok (.if_icmp .ge 12, 3) := by decide +kernel
theorem dX9_order_45 : decode cX9_order 45 = .ok (.aload_n 0, 1) := by decide +kernel
theorem dX9_order_46 : decode cX9_order 46 = .ok (.getfield 73, 3) := by decide +kernel
theorem dX9_order_49 : decode cX9_order 49 = .ok (.iload_n 1, 1) := by decide +kernel
theorem dX9_order_50 : decode cX9_order 50 = .ok (.iaload, 1) := by decide +kernel
theorem dX9_order_51 : decode cX9_order 51 = .ok (.goto 5, 3) := by decide +kernel
theorem dX9_order_54 : decode cX9_order 54 = .ok (.bipush (-9), 2) := by decide +kernel
theorem dX9_order_56 : decode cX9_order 56 = .ok (.ireturn, 1) := by decide +kernel
theorem dX9_sumAt_0 : decode cX9_sumAt 0 = .ok (.iconst 0, 1) := by decide +kernel
theorem dX9_sumAt_1 : decode cX9_sumAt 1 = .ok (.istore_n 3, 1) := by decide +kernel
theorem dX9_sumAt_2 : decode cX9_sumAt 2 = .ok (.iconst 0, 1) := by decide +kernel
theorem dX9_sumAt_3 : decode cX9_sumAt 3 = .ok (.istore 4, 2) := by decide +kernel
theorem dX9_sumAt_5 : decode cX9_sumAt 5 = .ok (.iload 4, 2) := by decide +kernel
theorem dX9_sumAt_7 : decode cX9_sumAt 7 = .ok (.aload_n 0, 1) := by decide +kernel
theorem dX9_sumAt_8 : decode cX9_sumAt 8 = .ok (.getfield 13, 3) := by decide +kernel
theorem dX9_sumAt_11 : decode cX9_sumAt 11 = .ok (.iconst 0, 1) := by decide +kernel
theorem dX9_sumAt_12 : decode cX9_sumAt 12 = .ok (.iaload, 1) := by decide +kernel
theorem dX9_sumAt_13 : decode cX9_sumAt 13 = .ok (.if_icmp .ge 47, 3) := by decide +kernel
theorem dX9_sumAt_16 : decode cX9_sumAt 16 = .ok (.iload_n 3, 1) := by decide +kernel
theorem dX9_sumAt_17 : decode cX9_sumAt 17 = .ok (.iload 4, 2) := by decide +kernel
theorem dX9_sumAt_19 : decode cX9_sumAt 19 = .ok (.iload_n 2, 1) := by decide +kernel
theorem dX9_sumAt_20 : decode cX9_sumAt 20 = .ok (.if_icmp .eq 31, 3) := by decide +kernel
theorem dX9_sumAt_23 : decode cX9_sumAt 23 = .ok (.aload_n 0, 1) := by decide +kernel
theorem dX9_sumAt_24 : decode cX9_sumAt 24 = .ok (.getfield 76, 3) := by decide +kernel
theorem dX9_sumAt_27 : decode cX9_sumAt 27 = .ok (.iload 4, 2) := by decide +kernel
theorem dX9_sumAt_29 : decode cX9_sumAt 29 = .ok (.iaload, 1) := by decide +kernel
theorem dX9_sumAt_30 : decode cX9_sumAt 30 = .ok (.iload_n 1, 1) := by decide +kernel
theorem dX9_sumAt_31 : decode cX9_sumAt 31 = .ok (.if_icmp .ne 20, 3) := by decide +kernel
theorem dX9_sumAt_34 : decode cX9_sumAt 34 = .ok (.aload_n 0, 1) := by decide +kernel
theorem dX9_sumAt_35 : decode cX9_sumAt 35 = .ok (.iconst 0, 1) := by decide +kernel
theorem dX9_sumAt_36 : decode cX9_sumAt 36 = .ok (.iload 4, 2) := by decide +kernel
theorem dX9_sumAt_38 : decode cX9_sumAt 38 = .ok (.invokevirtual 181, 3) := by decide +kernel
theorem dX9_sumAt_41 : decode cX9_sumAt 41 = .ok (.aload_n 0, 1) := by decide +kernel
theorem dX9_sumAt_42 : decode cX9_sumAt 42 = .ok (.iload 4, 2) := by decide +kernel
theorem dX9_sumAt_44 : decode cX9_sumAt 44 = .ok (.invokevirtual 193, 3) := by decide +kernel
theorem dX9_sumAt_47 : decode cX9_sumAt 47 = .ok (.imul, 1) := by decide +kernel
theorem dX9_sumAt_48 : decode cX9_sumAt 48 = .ok (.goto 4, 3) := by decide +kernel
theorem dX9_sumAt_51 : decode cX9_sumAt 51 = .ok (.iconst 0, 1) := by decide +kernel
theorem dX9_sumAt_52 : decode cX9_sumAt 52 = .ok (.iadd, 1) := by decide +kernel
theorem dX9_sumAt_53 : decode cX9_sumAt 53 = .ok (.istore_n 3, 1) := by decide +kernel
theorem dX9_sumAt_54 : decode cX9_sumAt 54 = .ok (.iinc 4 1, 3) := by decide +kernel
theorem dX9_sumAt_57 : decode cX9_sumAt 57 = .ok (.goto (-52), 3) := by decide +kernel
theorem dX9_sumAt_60 : decode cX9_sumAt 60 = .ok (.iload_n 3, 1) := by decide +kernel
theorem dX9_sumAt_61 : decode cX9_sumAt 61 = .ok (.ireturn, 1) := by decide +kernel
theorem dX9_goesOver_0 : decode cX9_goesOver 0 = .ok (.bipush (-9), 2) := by decide +kernel
theorem dX9_goesOver_2 : decode cX9_goesOver 2 = .ok (.istore_n 2, 1) := by decide +kernel
theorem dX9_goesOver_3 : decode cX9_goesOver 3 = .ok (.iconst 0, 1) := by decide +kernel
theorem dX9_goesOver_4 : decode cX9_goesOver 4 = .ok (.istore_n 3, 1) := by decide +kernel
theorem dX9_goesOver_5 : decode cX9_goesOver 5 = .ok (.iconst 0, 1) := by decide +kernel
theorem dX9_goesOver_6 : decode cX9_goesOver 6 = .ok (.istore 4, 2) := by decide +kernel
theorem dX9_goesOver_8 : decode cX9_goesOver 8 = .ok (.iload 4, 2) := by decide +kernel
theorem dX9_goesOver_10 : decode cX9_goesOver 10 = .ok (.aload_n 0, 1) := by decide +kernel
theorem dX9_goesOver_11 : decode cX9_goesOver 11 = .ok (.getfield 13, 3) := by decide +kernel
theorem dX9_goesOver_14 : decode cX9_goesOver 14 = .ok (.iconst 1, 1) := by decide +kernel
theorem dX9_goesOver_15 : decode cX9_goesOver 15 = .ok (.iaload, 1) := by decide +kernel
theorem dX9_goesOver_16 : decode cX9_goesOver 16 = .ok (.if_icmp .ge 54, 3) := by decide +kernel
theorem dX9_goesOver_19 : decode cX9_goesOver 19 = .ok (.aload_n 0, 1) := by decide +kernel
theorem dX9_goesOver_20 : decode cX9_goesOver 20 = .ok (.iload 4, 2) := by decide +kernel
theorem dX9_goesOver_22 : decode cX9_goesOver 22 = .ok (.iconst 0, 1) := by decide +kernel
theorem dX9_goesOver_23 : decode cX9_goesOver 23 = .ok (.invokevirtual 129, 3) := by decide +kernel
theorem dX9_goesOver_26 : decode cX9_goesOver 26 = .ok (.iload_n 1, 1) := by decide +kernel
theorem dX9_goesOver_27 : decode cX9_goesOver 27 = .ok (.ishr, 1) := by decide +kernel
theorem dX9_goesOver_28 : decode cX9_goesOver 28 = .ok (.iconst 1, 1) := by decide +kernel
theorem dX9_goesOver_29 : decode cX9_goesOver 29 = .ok (.iand, 1) := by decide +kernel
theorem dX9_goesOver_30 : decode cX9_goesOver 30 = .ok (.ifCond .ne 6, 3) := by decide +kernel
theorem dX9_goesOver_33 : decode cX9_goesOver 33 = .ok (.goto 31, 3) := by decide +kernel
theorem dX9_goesOver_36 : decode cX9_goesOver 36 = .ok (.aload_n 0, 1) := by decide +kernel
theorem dX9_goesOver_37 : decode cX9_goesOver 37 = .ok (.iload 4, 2) := by decide +kernel
theorem dX9_goesOver_39 : decode cX9_goesOver 39 = .ok (.iload_n 1, 1) := by decide +kernel
theorem dX9_goesOver_40 : decode cX9_goesOver 40 = .ok (.invokevirtual 257, 3) := by decide +kernel
theorem dX9_goesOver_43 : decode cX9_goesOver 43 = .ok (.istore 5, 2) := by decide +kernel
theorem dX9_goesOver_45 : decode cX9_goesOver 45 = .ok (.iload_n 2, 1) := by decide +kernel
theorem dX9_goesOver_46 : decode cX9_goesOver 46 = .ok (.ifCond .lt 12, 3) := by decide +kernel
theorem dX9_goesOver_49 : decode cX9_goesOver 49 = .ok (.iload 5, 2) := by decide +kernel
theorem dX9_goesOver_51 : decode cX9_goesOver 51 = .ok (.iload_n 3, 1) := by decide +kernel
theorem dX9_goesOver_52 : decode cX9_goesOver 52 = .ok (.if_icmp .lt 6, 3) := by decide +kernel
theorem dX9_goesOver_55 : decode cX9_goesOver 55 = .ok (.goto 9, 3) := by decide +kernel
theorem dX9_goesOver_58 : decode cX9_goesOver 58 = .ok (.iload 4, 2) := by decide +kernel
theorem dX9_goesOver_60 : decode cX9_goesOver 60 = .ok (.istore_n 2, 1) := by decide +kernel
theorem dX9_goesOver_61 : decode cX9_goesOver 61 = .ok (.iload 5, 2) := by decide +kernel
theorem dX9_goesOver_63 : decode cX9_goesOver 63 = .ok (.istore_n 3, 1) := by decide +kernel
theorem dX9_goesOver_64 : decode cX9_goesOver 64 = .ok (.iinc 4 1, 3) := by decide +kernel
theorem dX9_goesOver_67 : decode cX9_goesOver 67 = .ok (.goto (-59), 3) := by decide +kernel
theorem dX9_goesOver_70 : decode cX9_goesOver 70 = .ok (.iload_n 2, 1) := by decide +kernel
theorem dX9_goesOver_71 : decode cX9_goesOver 71 = .ok (.aload_n 0, 1) := by decide +kernel
theorem dX9_goesOver_72 : decode cX9_goesOver 72 = .ok (.getfield 76, 3) := by decide +kernel
theorem dX9_goesOver_75 : decode cX9_goesOver 75 = .ok (.iload_n 1, 1) := by decide +kernel
theorem dX9_goesOver_76 : decode cX9_goesOver 76 = .ok (.iaload, 1) := by decide +kernel
theorem dX9_goesOver_77 : decode cX9_goesOver 77 = .ok (.if_icmp .eq 7, 3) := by decide +kernel
theorem dX9_goesOver_80 : decode cX9_goesOver 80 = .ok (.iconst 1, 1) := by decide +kernel
theorem dX9_goesOver_81 : decode cX9_goesOver 81 = .ok (.goto 4, 3) := by decide +kernel
theorem dX9_goesOver_84 : decode cX9_goesOver 84 = .ok (.iconst 0, 1) := by decide +kernel
theorem dX9_goesOver_85 : decode cX9_goesOver 85 = .ok (.istore 4, 2) := by decide +kernel
theorem dX9_goesOver_87 : decode cX9_goesOver 87 = .ok (.aload_n 0, 1) := by decide +kernel
theorem dX9_goesOver_88 : decode cX9_goesOver 88 = .ok (.getfield 76, 3) := by decide +kernel
theorem dX9_goesOver_91 : decode cX9_goesOver 91 = .ok (.iload_n 1, 1) := by decide +kernel
theorem dX9_goesOver_92 : decode cX9_goesOver 92 = .ok (.iload_n 2, 1) := by decide +kernel
theorem dX9_goesOver_93 : decode cX9_goesOver 93 = .ok (.iastore, 1) := by decide +kernel
theorem dX9_goesOver_94 : decode cX9_goesOver 94 = .ok (.iload 4, 2) := by decide +kernel
theorem dX9_goesOver_96 : decode cX9_goesOver 96 = .ok (.ireturn, 1) := by decide +kernel
theorem dX9_rests_0 : decode cX9_rests 0 = .ok (.aload_n 0, 1) := by decide +kernel
theorem dX9_rests_1 : decode cX9_rests 1 = .ok (.iload_n 1, 1) := by decide +kernel
theorem dX9_rests_2 : decode cX9_rests 2 = .ok (.invokevirtual 123, 3) := by decide +kernel
theorem dX9_rests_5 : decode cX9_rests 5 = .ok (.ifCond .ne 9, 3) := by decide +kernel
theorem dX9_rests_8 : decode cX9_rests 8 = .ok (.aload_n 0, 1) := by decide +kernel
theorem dX9_rests_9 : decode cX9_rests 9 = .ok (.iconst (-1), 1) := by decide +kernel
theorem dX9_rests_10 : decode cX9_rests 10 = .ok (.invokevirtual 86, 3) := by decide +kernel
theorem dX9_rests_13 : decode cX9_rests 13 = .ok (.ireturn, 1) := by decide +kernel
theorem dX9_rests_14 : decode cX9_rests 14 = .ok (.iconst 0, 1) := by decide +kernel
theorem dX9_rests_15 : decode cX9_rests 15 = .ok (.istore_n 2, 1) := by decide +kernel
theorem dX9_rests_16 : decode cX9_rests 16 = .ok (.iload_n 2, 1) := by decide +kernel
theorem dX9_rests_17 : decode cX9_rests 17 = .ok (.aload_n 0, 1) := by decide +kernel
theorem dX9_rests_18 : decode cX9_rests 18 = .ok (.getfield 13, 3) := by decide +kernel
theorem dX9_rests_21 : decode cX9_rests 21 = .ok (.iconst 0, 1) := by decide +kernel
theorem dX9_rests_22 : decode cX9_rests 22 = .ok (.iaload, 1) := by decide +kernel
theorem dX9_rests_23 : decode cX9_rests 23 = .ok (.if_icmp .ge 66, 3) := by decide +kernel
theorem dX9_rests_26 : decode cX9_rests 26 = .ok (.aload_n 0, 1) := by decide +kernel
theorem dX9_rests_27 : decode cX9_rests 27 = .ok (.getfield 76, 3) := by decide +kernel
theorem dX9_rests_30 : decode cX9_rests 30 = .ok (.iload_n 2, 1) := by decide +kernel
theorem dX9_rests_31 : decode cX9_rests 31 = .ok (.bipush (-9), 2) := by decide +kernel
theorem dX9_rests_33 : decode cX9_rests 33 = .ok (.iastore, 1) := by decide +kernel
theorem dX9_rests_34 : decode cX9_rests 34 = .ok (.aload_n 0, 1) := by decide +kernel
theorem dX9_rests_35 : decode cX9_rests 35 = .ok (.getfield 13, 3) := by decide +kernel
theorem dX9_rests_38 : decode cX9_rests 38 = .ok (.iconst 1, 1) := by decide +kernel
theorem dX9_rests_39 : decode cX9_rests 39 = .ok (.iaload, 1) := by decide +kernel
theorem dX9_rests_40 : decode cX9_rests 40 = .ok (.iconst 1, 1) := by decide +kernel
theorem dX9_rests_41 : decode cX9_rests 41 = .ok (.isub, 1) := by decide +kernel
theorem dX9_rests_42 : decode cX9_rests 42 = .ok (.istore_n 3, 1) := by decide +kernel
theorem dX9_rests_43 : decode cX9_rests 43 = .ok (.iload_n 3, 1) := by decide +kernel
theorem dX9_rests_44 : decode cX9_rests 44 = .ok (.ifCond .lt 39, 3) := by decide +kernel
theorem dX9_rests_47 : decode cX9_rests 47 = .ok (.aload_n 0, 1) := by decide +kernel
theorem dX9_rests_48 : decode cX9_rests 48 = .ok (.getfield 76, 3) := by decide +kernel
theorem dX9_rests_51 : decode cX9_rests 51 = .ok (.iload_n 2, 1) := by decide +kernel
theorem dX9_rests_52 : decode cX9_rests 52 = .ok (.aload_n 0, 1) := by decide +kernel
theorem dX9_rests_53 : decode cX9_rests 53 = .ok (.iload_n 3, 1) := by decide +kernel
theorem dX9_rests_54 : decode cX9_rests 54 = .ok (.iconst 0, 1) := by decide +kernel
theorem dX9_rests_55 : decode cX9_rests 55 = .ok (.invokevirtual 129, 3) := by decide +kernel
theorem dX9_rests_58 : decode cX9_rests 58 = .ok (.iload_n 2, 1) := by decide +kernel
theorem dX9_rests_59 : decode cX9_rests 59 = .ok (.ishr, 1) := by decide +kernel
theorem dX9_rests_60 : decode cX9_rests 60 = .ok (.iconst 1, 1) := by decide +kernel
theorem dX9_rests_61 : decode cX9_rests 61 = .ok (.iand, 1) := by decide +kernel
theorem dX9_rests_62 : decode cX9_rests 62 = .ok (.iconst 1, 1) := by decide +kernel
theorem dX9_rests_63 : decode cX9_rests 63 = .ok (.if_icmp .ne 7, 3) := by decide +kernel
theorem dX9_rests_66 : decode cX9_rests 66 = .ok (.iload_n 3, 1) := by decide +kernel
theorem dX9_rests_67 : decode cX9_rests 67 = .ok (.goto 9, 3) := by decide +kernel
theorem dX9_rests_70 : decode cX9_rests 70 = .ok (.aload_n 0, 1) := by decide +kernel
theorem dX9_rests_71 : decode cX9_rests 71 = .ok (.getfield 76, 3) := by decide +kernel
theorem dX9_rests_74 : decode cX9_rests 74 = .ok (.iload_n 2, 1) := by decide +kernel
theorem dX9_rests_75 : decode cX9_rests 75 = .ok (.iaload, 1) := by decide +kernel
theorem dX9_rests_76 : decode cX9_rests 76 = .ok (.iastore, 1) := by decide +kernel
theorem dX9_rests_77 : decode cX9_rests 77 = .ok (.iinc 3 (-1), 3) := by decide +kernel
theorem dX9_rests_80 : decode cX9_rests 80 = .ok (.goto (-37), 3) := by decide +kernel
theorem dX9_rests_83 : decode cX9_rests 83 = .ok (.iinc 2 1, 3) := by decide +kernel
theorem dX9_rests_86 : decode cX9_rests 86 = .ok (.goto (-70), 3) := by decide +kernel
theorem dX9_rests_89 : decode cX9_rests 89 = .ok (.iconst 1, 1) := by decide +kernel
theorem dX9_rests_90 : decode cX9_rests 90 = .ok (.istore_n 2, 1) := by decide +kernel
theorem dX9_rests_91 : decode cX9_rests 91 = .ok (.iconst 0, 1) := by decide +kernel
theorem dX9_rests_92 : decode cX9_rests 92 = .ok (.istore_n 3, 1) := by decide +kernel
theorem dX9_rests_93 : decode cX9_rests 93 = .ok (.iload_n 3, 1) := by decide +kernel
theorem dX9_rests_94 : decode cX9_rests 94 = .ok (.bipush 20, 2) := by decide +kernel
theorem dX9_rests_96 : decode cX9_rests 96 = .ok (.if_icmp .ge 54, 3) := by decide +kernel
theorem dX9_rests_99 : decode cX9_rests 99 = .ok (.iload_n 2, 1) := by decide +kernel
theorem dX9_rests_100 : decode cX9_rests 100 = .ok (.ifCond .eq 50, 3) := by decide +kernel
theorem dX9_rests_103 : decode cX9_rests 103 = .ok (.iconst 0, 1) := by decide +kernel
theorem dX9_rests_104 : decode cX9_rests 104 = .ok (.istore_n 2, 1) := by decide +kernel
theorem dX9_rests_105 : decode cX9_rests 105 = .ok (.iconst 0, 1) := by decide +kernel
theorem dX9_rests_106 : decode cX9_rests 106 = .ok (.istore 4, 2) := by decide +kernel
theorem dX9_rests_108 : decode cX9_rests 108 = .ok (.iload 4, 2) := by decide +kernel
theorem dX9_rests_110 : decode cX9_rests 110 = .ok (.aload_n 0, 1) := by decide +kernel
theorem dX9_rests_111 : decode cX9_rests 111 = .ok (.getfield 13, 3) := by decide +kernel
theorem dX9_rests_114 : decode cX9_rests 114 = .ok (.iconst 0, 1) := by decide +kernel
theorem dX9_rests_115 : decode cX9_rests 115 = .ok (.iaload, 1) := by decide +kernel
theorem dX9_rests_116 : decode cX9_rests 116 = .ok (.if_icmp .ge 28, 3) := by decide +kernel
theorem dX9_rests_119 : decode cX9_rests 119 = .ok (.aload_n 0, 1) := by decide +kernel
theorem dX9_rests_120 : decode cX9_rests 120 = .ok (.iload 4, 2) := by decide +kernel
theorem dX9_rests_122 : decode cX9_rests 122 = .ok (.invokevirtual 260, 3) := by decide +kernel
theorem dX9_rests_125 : decode cX9_rests 125 = .ok (.ifCond .ne 7, 3) := by decide +kernel
theorem dX9_rests_128 : decode cX9_rests 128 = .ok (.iload_n 2, 1) := by decide +kernel
theorem dX9_rests_129 : decode cX9_rests 129 = .ok (.ifCond .eq 7, 3) := by decide +kernel
theorem dX9_rests_132 : decode cX9_rests 132 = .ok (.iconst 1, 1) := by decide +kernel
theorem dX9_rests_133 : decode cX9_rests 133 = .ok (.goto 4, 3) := by decide +kernel
theorem dX9_rests_136 : decode cX9_rests 136 = .ok (.iconst 0, 1) := by decide +kernel
theorem dX9_rests_137 : decode cX9_rests 137 = .ok (.istore_n 2, 1) := by decide +kernel
theorem dX9_rests_138 : decode cX9_rests 138 = .ok (.iinc 4 1, 3) := by decide +kernel
theorem dX9_rests_141 : decode cX9_rests 141 = .ok (.goto (-33), 3) := by decide +kernel
theorem dX9_rests_144 : decode cX9_rests 144 = .ok (.iinc 3 1, 3) := by decide +kernel
theorem dX9_rests_147 : decode cX9_rests 147 = .ok (.goto (-54), 3) := by decide +kernel
theorem dX9_rests_150 : decode cX9_rests 150 = .ok (.aload_n 0, 1) := by decide +kernel
theorem dX9_rests_151 : decode cX9_rests 151 = .ok (.getfield 76, 3) := by decide +kernel
theorem dX9_rests_154 : decode cX9_rests 154 = .ok (.iload_n 1, 1) := by decide +kernel
theorem dX9_rests_155 : decode cX9_rests 155 = .ok (.iaload, 1) := by decide +kernel
theorem dX9_rests_156 : decode cX9_rests 156 = .ok (.ireturn, 1) := by decide +kernel
theorem dX9_row_0 : decode cX9_row 0 = .ok (.iload_n 1, 1) := by decide +kernel
theorem dX9_row_1 : decode cX9_row 1 = .ok (.iconst 0, 1) := by decide +kernel
theorem dX9_row_2 : decode cX9_row 2 = .ok (.sipush 32767, 3) := by decide +kernel
theorem dX9_row_5 : decode cX9_row 5 = .ok (.invokestatic 133, 3) := by decide +kernel
theorem dX9_row_8 : decode cX9_row 8 = .ok (.istore_n 2, 1) := by decide +kernel
theorem dX9_row_9 : decode cX9_row 9 = .ok (.iload_n 2, 1) := by decide +kernel
theorem dX9_row_10 : decode cX9_row 10 = .ok (.ifCond .ne 14, 3) := by decide +kernel
theorem dX9_row_13 : decode cX9_row 13 = .ok (.aload_n 0, 1) := by decide +kernel
theorem dX9_row_14 : decode cX9_row 14 = .ok (.getfield 263, 3) := by decide +kernel
theorem dX9_row_17 : decode cX9_row 17 = .ok (.iconst 5, 1) := by decide +kernel
theorem dX9_row_18 : decode cX9_row 18 = .ok (.if_icmp .ne 6, 3) := by decide +kernel
theorem dX9_row_21 : decode cX9_row 21 = .ok (.bipush (-6), 2) := by decide +kernel
theorem dX9_row_23 : decode cX9_row 23 = .ok (.istore_n 2, 1) := by decide +kernel
theorem dX9_row_24 : decode cX9_row 24 = .ok (.iload_n 2, 1) := by decide +kernel
theorem dX9_row_25 : decode cX9_row 25 = .ok (.ifCond .eq 9, 3) := by decide +kernel
theorem dX9_row_28 : decode cX9_row 28 = .ok (.aload_n 0, 1) := by decide +kernel
theorem dX9_row_29 : decode cX9_row 29 = .ok (.iload_n 2, 1) := by decide +kernel
theorem dX9_row_30 : decode cX9_row 30 = .ok (.invokevirtual 86, 3) := by decide +kernel
theorem dX9_row_33 : decode cX9_row 33 = .ok (.ireturn, 1) := by decide +kernel
theorem dX9_row_34 : decode cX9_row 34 = .ok (.aload_n 0, 1) := by decide +kernel
theorem dX9_row_35 : decode cX9_row 35 = .ok (.getfield 79, 3) := by decide +kernel
theorem dX9_row_38 : decode cX9_row 38 = .ok (.aload_n 0, 1) := by decide +kernel
theorem dX9_row_39 : decode cX9_row 39 = .ok (.getfield 263, 3) := by decide +kernel
theorem dX9_row_42 : decode cX9_row 42 = .ok (.iload_n 1, 1) := by decide +kernel
theorem dX9_row_43 : decode cX9_row 43 = .ok (.iastore, 1) := by decide +kernel
theorem dX9_row_44 : decode cX9_row 44 = .ok (.aload_n 0, 1) := by decide +kernel
theorem dX9_row_45 : decode cX9_row 45 = .ok (.dup, 1) := by decide +kernel
theorem dX9_row_46 : decode cX9_row 46 = .ok (.getfield 263, 3) := by decide +kernel
theorem dX9_row_49 : decode cX9_row 49 = .ok (.iconst 1, 1) := by decide +kernel
theorem dX9_row_50 : decode cX9_row 50 = .ok (.iadd, 1) := by decide +kernel
theorem dX9_row_51 : decode cX9_row 51 = .ok (.putfield 263, 3) := by decide +kernel
theorem dX9_row_54 : decode cX9_row 54 = .ok (.aload_n 0, 1) := by decide +kernel
theorem dX9_row_55 : decode cX9_row 55 = .ok (.getfield 263, 3) := by decide +kernel
theorem dX9_row_58 : decode cX9_row 58 = .ok (.ireturn, 1) := by decide +kernel
theorem dX9_judge_0 : decode cX9_judge 0 = .ok (.aload_n 0, 1) := by decide +kernel
theorem dX9_judge_1 : decode cX9_judge 1 = .ok (.getfield 263, 3) := by decide +kernel
theorem dX9_judge_4 : decode cX9_judge 4 = .ok (.istore_n 1, 1) := by decide +kernel
theorem dX9_judge_5 : decode cX9_judge 5 = .ok (.aload_n 0, 1) := by decide +kernel
theorem dX9_judge_6 : decode cX9_judge 6 = .ok (.iconst 0, 1) := by decide +kernel
theorem dX9_judge_7 : decode cX9_judge 7 = .ok (.putfield 263, 3) := by decide +kernel
theorem dX9_judge_10 : decode cX9_judge 10 = .ok (.aload_n 0, 1) := by decide +kernel
theorem dX9_judge_11 : decode cX9_judge 11 = .ok (.invokevirtual 232, 3) := by decide +kernel
theorem dX9_judge_14 : decode cX9_judge 14 = .ok (.iconst 0, 1) := by decide +kernel
theorem dX9_judge_15 : decode cX9_judge 15 = .ok (.istore_n 2, 1) := by decide +kernel
theorem dX9_judge_16 : decode cX9_judge 16 = .ok (.iload_n 2, 1) := by decide +kernel
theorem dX9_judge_17 : decode cX9_judge 17 = .ok (.aload_n 0, 1) := by decide +kernel
theorem dX9_judge_18 : decode cX9_judge 18 = .ok (.getfield 13, 3) := by decide +kernel
theorem dX9_judge_21 : decode cX9_judge 21 = .ok (.iconst 0, 1) := by decide +kernel
theorem dX9_judge_22 : decode cX9_judge 22 = .ok (.iaload, 1) := by decide +kernel
theorem dX9_judge_23 : decode cX9_judge 23 = .ok (.if_icmp .ge 53, 3) := by decide +kernel
theorem dX9_judge_26 : decode cX9_judge 26 = .ok (.iload_n 2, 1) := by decide +kernel
theorem dX9_judge_27 : decode cX9_judge 27 = .ok (.iload_n 1, 1) := by decide +kernel
theorem dX9_judge_28 : decode cX9_judge 28 = .ok (.if_icmp .ne 5, 3) := by decide +kernel
theorem dX9_judge_31 : decode cX9_judge 31 = .ok (.iload_n 1, 1) := by decide +kernel
theorem dX9_judge_32 : decode cX9_judge 32 = .ok (.ireturn, 1) := by decide +kernel
theorem dX9_judge_33 : decode cX9_judge 33 = .ok (.aload_n 0, 1) := by decide +kernel
theorem dX9_judge_34 : decode cX9_judge 34 = .ok (.getfield 79, 3) := by decide +kernel
theorem dX9_judge_37 : decode cX9_judge 37 = .ok (.iload_n 2, 1) := by decide +kernel
theorem dX9_judge_38 : decode cX9_judge 38 = .ok (.iaload, 1) := by decide +kernel
theorem dX9_judge_39 : decode cX9_judge 39 = .ok (.aload_n 0, 1) := by decide +kernel
theorem dX9_judge_40 : decode cX9_judge 40 = .ok (.getfield 55, 3) := by decide +kernel
theorem dX9_judge_43 : decode cX9_judge 43 = .ok (.iload_n 2, 1) := by decide +kernel
theorem dX9_judge_44 : decode cX9_judge 44 = .ok (.iaload, 1) := by decide +kernel
theorem dX9_judge_45 : decode cX9_judge 45 = .ok (.ifCond .ne 7, 3) := by decide +kernel
theorem dX9_judge_48 : decode cX9_judge 48 = .ok (.iconst 0, 1) := by decide +kernel
theorem dX9_judge_49 : decode cX9_judge 49 = .ok (.goto 16, 3) := by decide +kernel
theorem dX9_judge_52 : decode cX9_judge 52 = .ok (.aload_n 0, 1) := by decide +kernel
theorem dX9_judge_53 : decode cX9_judge 53 = .ok (.getfield 52, 3) := by decide +kernel
theorem dX9_judge_56 : decode cX9_judge 56 = .ok (.iload_n 2, 1) := by decide +kernel
theorem dX9_judge_57 : decode cX9_judge 57 = .ok (.iaload, 1) := by decide +kernel
theorem dX9_judge_58 : decode cX9_judge 58 = .ok (.aload_n 0, 1) := by decide +kernel
theorem dX9_judge_59 : decode cX9_judge 59 = .ok (.getfield 55, 3) := by decide +kernel
theorem dX9_judge_62 : decode cX9_judge 62 = .ok (.iload_n 2, 1) := by decide +kernel
theorem dX9_judge_63 : decode cX9_judge 63 = .ok (.iaload, 1) := by decide +kernel
theorem dX9_judge_64 : decode cX9_judge 64 = .ok (.idiv, 1) := by decide +kernel
theorem dX9_judge_65 : decode cX9_judge 65 = .ok (.if_icmp .eq 5, 3) := by decide +kernel
theorem dX9_judge_68 : decode cX9_judge 68 = .ok (.iload_n 2, 1) := by decide +kernel
theorem dX9_judge_69 : decode cX9_judge 69 = .ok (.ireturn, 1) := by decide +kernel
theorem dX9_judge_70 : decode cX9_judge 70 = .ok (.iinc 2 1, 3) := by decide +kernel
theorem dX9_judge_73 : decode cX9_judge 73 = .ok (.goto (-57), 3) := by decide +kernel
theorem dX9_judge_76 : decode cX9_judge 76 = .ok (.iload_n 1, 1) := by decide +kernel
theorem dX9_judge_77 : decode cX9_judge 77 = .ok (.aload_n 0, 1) := by decide +kernel
theorem dX9_judge_78 : decode cX9_judge 78 = .ok (.getfield 13, 3) := by decide +kernel
theorem dX9_judge_81 : decode cX9_judge 81 = .ok (.iconst 0, 1) := by decide +kernel
theorem dX9_judge_82 : decode cX9_judge 82 = .ok (.iaload, 1) := by decide +kernel
theorem dX9_judge_83 : decode cX9_judge 83 = .ok (.if_icmp .le 12, 3) := by decide +kernel
theorem dX9_judge_86 : decode cX9_judge 86 = .ok (.aload_n 0, 1) := by decide +kernel
theorem dX9_judge_87 : decode cX9_judge 87 = .ok (.getfield 13, 3) := by decide +kernel
theorem dX9_judge_90 : decode cX9_judge 90 = .ok (.iconst 0, 1) := by decide +kernel
theorem dX9_judge_91 : decode cX9_judge 91 = .ok (.iaload, 1) := by decide +kernel
theorem dX9_judge_92 : decode cX9_judge 92 = .ok (.goto 5, 3) := by decide +kernel
theorem dX9_judge_95 : decode cX9_judge 95 = .ok (.bipush (-9), 2) := by decide +kernel
theorem dX9_judge_97 : decode cX9_judge 97 = .ok (.ireturn, 1) := by decide +kernel
theorem dX9_image_0 : decode cX9_image 0 = .ok (.iconst 0, 1) := by decide +kernel
theorem dX9_image_1 : decode cX9_image 1 = .ok (.istore_n 1, 1) := by decide +kernel
theorem dX9_image_2 : decode cX9_image 2 = .ok (.iload_n 1, 1) := by decide +kernel
theorem dX9_image_3 : decode cX9_image 3 = .ok (.bipush 64, 2) := by decide +kernel
theorem dX9_image_5 : decode cX9_image 5 = .ok (.if_icmp .ge 21, 3) := by decide +kernel
theorem dX9_image_8 : decode cX9_image 8 = .ok (.aload_n 0, 1) := by decide +kernel
theorem dX9_image_9 : decode cX9_image 9 = .ok (.getfield 16, 3) := by decide +kernel
theorem dX9_image_12 : decode cX9_image 12 = .ok (.iload_n 1, 1) := by decide +kernel
theorem dX9_image_13 : decode cX9_image 13 = .ok (.aload_n 0, 1) := by decide +kernel
theorem dX9_image_14 : decode cX9_image 14 = .ok (.getfield 13, 3) := by decide +kernel
theorem dX9_image_17 : decode cX9_image 17 = .ok (.iload_n 1, 1) := by decide +kernel
theorem dX9_image_18 : decode cX9_image 18 = .ok (.iaload, 1) := by decide +kernel
theorem dX9_image_19 : decode cX9_image 19 = .ok (.iastore, 1) := by decide +kernel
theorem dX9_image_20 : decode cX9_image 20 = .ok (.iinc 1 1, 3) := by decide +kernel
theorem dX9_image_23 : decode cX9_image 23 = .ok (.goto (-21), 3) := by decide +kernel
theorem dX9_image_26 : decode cX9_image 26 = .ok (.aload_n 0, 1) := by decide +kernel
theorem dX9_image_27 : decode cX9_image 27 = .ok (.iconst 1, 1) := by decide +kernel
theorem dX9_image_28 : decode cX9_image 28 = .ok (.putfield 266, 3) := by decide +kernel
theorem dX9_image_31 : decode cX9_image 31 = .ok (.aload_n 0, 1) := by decide +kernel
theorem dX9_image_32 : decode cX9_image 32 = .ok (.getfield 13, 3) := by decide +kernel
theorem dX9_image_35 : decode cX9_image 35 = .ok (.iconst 1, 1) := by decide +kernel
theorem dX9_image_36 : decode cX9_image 36 = .ok (.iaload, 1) := by decide +kernel
theorem dX9_image_37 : decode cX9_image 37 = .ok (.ireturn, 1) := by decide +kernel
theorem dX9_on_0 : decode cX9_on 0 = .ok (.aload_n 0, 1) := by decide +kernel
theorem dX9_on_1 : decode cX9_on 1 = .ok (.getfield 266, 3) := by decide +kernel
theorem dX9_on_4 : decode cX9_on 4 = .ok (.ifCond .ne 10, 3) := by decide +kernel
theorem dX9_on_7 : decode cX9_on 7 = .ok (.aload_n 0, 1) := by decide +kernel
theorem dX9_on_8 : decode cX9_on 8 = .ok (.bipush (-3), 2) := by decide +kernel
theorem dX9_on_10 : decode cX9_on 10 = .ok (.invokevirtual 86, 3) := by decide +kernel
theorem dX9_on_13 : decode cX9_on 13 = .ok (.ireturn, 1) := by decide +kernel
theorem dX9_on_14 : decode cX9_on 14 = .ok (.iconst 0, 1) := by decide +kernel
theorem dX9_on_15 : decode cX9_on 15 = .ok (.istore_n 1, 1) := by decide +kernel
theorem dX9_on_16 : decode cX9_on 16 = .ok (.iload_n 1, 1) := by decide +kernel
theorem dX9_on_17 : decode cX9_on 17 = .ok (.bipush 64, 2) := by decide +kernel
theorem dX9_on_19 : decode cX9_on 19 = .ok (.if_icmp .ge 21, 3) := by decide +kernel
theorem dX9_on_22 : decode cX9_on 22 = .ok (.aload_n 0, 1) := by decide +kernel
theorem dX9_on_23 : decode cX9_on 23 = .ok (.getfield 13, 3) := by decide +kernel
theorem dX9_on_26 : decode cX9_on 26 = .ok (.iload_n 1, 1) := by decide +kernel
theorem dX9_on_27 : decode cX9_on 27 = .ok (.aload_n 0, 1) := by decide +kernel
theorem dX9_on_28 : decode cX9_on 28 = .ok (.getfield 16, 3) := by decide +kernel
theorem dX9_on_31 : decode cX9_on 31 = .ok (.iload_n 1, 1) := by decide +kernel
theorem dX9_on_32 : decode cX9_on 32 = .ok (.iaload, 1) := by decide +kernel
theorem dX9_on_33 : decode cX9_on 33 = .ok (.iastore, 1) := by decide +kernel
theorem dX9_on_34 : decode cX9_on 34 = .ok (.iinc 1 1, 3) := by decide +kernel
theorem dX9_on_37 : decode cX9_on 37 = .ok (.goto (-21), 3) := by decide +kernel
theorem dX9_on_40 : decode cX9_on 40 = .ok (.aload_n 0, 1) := by decide +kernel
theorem dX9_on_41 : decode cX9_on 41 = .ok (.getfield 13, 3) := by decide +kernel
theorem dX9_on_44 : decode cX9_on 44 = .ok (.iconst 1, 1) := by decide +kernel
theorem dX9_on_45 : decode cX9_on 45 = .ok (.iaload, 1) := by decide +kernel
theorem dX9_on_46 : decode cX9_on 46 = .ok (.ireturn, 1) := by decide +kernel
theorem dX9_count_0 : decode cX9_count 0 = .ok (.iload_n 1, 1) := by decide +kernel
theorem dX9_count_1 : decode cX9_count 1 = .ok (.bipush 10, 2) := by decide +kernel
theorem dX9_count_3 : decode cX9_count 3 = .ok (.if_icmp .le 19, 3) := by decide +kernel
theorem dX9_count_6 : decode cX9_count 6 = .ok (.iload_n 1, 1) := by decide +kernel
theorem dX9_count_7 : decode cX9_count 7 = .ok (.bipush 17, 2) := by decide +kernel
theorem dX9_count_9 : decode cX9_count 9 = .ok (.if_icmp .ge 13, 3) := by decide +kernel
theorem dX9_count_12 : decode cX9_count 12 = .ok (.aload_n 0, 1) := by decide +kernel
theorem dX9_count_13 : decode cX9_count 13 = .ok (.getfield 7, 3) := by decide +kernel
theorem dX9_count_16 : decode cX9_count 16 = .ok (.iload_n 1, 1) := by decide +kernel
theorem dX9_count_17 : decode cX9_count 17 = .ok (.bipush 10, 2) := by decide +kernel
theorem dX9_count_19 : decode cX9_count 19 = .ok (.isub, 1) := by decide +kernel
theorem dX9_count_20 : decode cX9_count 20 = .ok (.iaload, 1) := by decide +kernel
theorem dX9_count_21 : decode cX9_count 21 = .ok (.ireturn, 1) := by decide +kernel
theorem dX9_count_22 : decode cX9_count 22 = .ok (.iconst 0, 1) := by decide +kernel
theorem dX9_count_23 : decode cX9_count 23 = .ok (.istore_n 2, 1) := by decide +kernel
theorem dX9_count_24 : decode cX9_count 24 = .ok (.iload_n 1, 1) := by decide +kernel
theorem dX9_count_25 : decode cX9_count 25 = .ok (.tableswitch 198 0 6 #[43, 43, 50, 95, 128, 188, 193], 43) := by decide +kernel
theorem dX9_count_68 : decode cX9_count 68 = .ok (.aload_n 0, 1) := by decide +kernel
theorem dX9_count_69 : decode cX9_count 69 = .ok (.getfield 13, 3) := by decide +kernel
theorem dX9_count_72 : decode cX9_count 72 = .ok (.iload_n 1, 1) := by decide +kernel
theorem dX9_count_73 : decode cX9_count 73 = .ok (.iaload, 1) := by decide +kernel
theorem dX9_count_74 : decode cX9_count 74 = .ok (.ireturn, 1) := by decide +kernel
theorem dX9_count_75 : decode cX9_count 75 = .ok (.iconst 0, 1) := by decide +kernel
theorem dX9_count_76 : decode cX9_count 76 = .ok (.istore_n 3, 1) := by decide +kernel
theorem dX9_count_77 : decode cX9_count 77 = .ok (.iload_n 3, 1) := by decide +kernel
theorem dX9_count_78 : decode cX9_count 78 = .ok (.aload_n 0, 1) := by decide +kernel
theorem dX9_count_79 : decode cX9_count 79 = .ok (.getfield 13, 3) := by decide +kernel
theorem dX9_count_82 : decode cX9_count 82 = .ok (.iconst 0, 1) := by decide +kernel
theorem dX9_count_83 : decode cX9_count 83 = .ok (.iaload, 1) := by decide +kernel
theorem dX9_count_84 : decode cX9_count 84 = .ok (.if_icmp .ge 34, 3) := by decide +kernel
theorem dX9_count_87 : decode cX9_count 87 = .ok (.iconst 0, 1) := by decide +kernel
theorem dX9_count_88 : decode cX9_count 88 = .ok (.istore 4, 2) := by decide +kernel
theorem dX9_count_90 : decode cX9_count 90 = .ok (.iload 4, 2) := by decide +kernel
theorem dX9_count_92 : decode cX9_count 92 = .ok (.iconst 4, 1) := by decide +kernel
theorem dX9_count_93 : decode cX9_count 93 = .ok (.if_icmp .ge 19, 3) := by decide +kernel
theorem dX9_count_96 : decode cX9_count 96 = .ok (.iload_n 2, 1) := by decide +kernel
theorem dX9_count_97 : decode cX9_count 97 = .ok (.aload_n 0, 1) := by decide +kernel
theorem dX9_count_98 : decode cX9_count 98 = .ok (.iload 4, 2) := by decide +kernel
theorem dX9_count_100 : decode cX9_count 100 = .ok (.iload_n 3, 1) := by decide +kernel
theorem dX9_count_101 : decode cX9_count 101 = .ok (.invokevirtual 181, 3) := by decide +kernel
theorem dX9_count_104 : decode cX9_count 104 = .ok (.iadd, 1) := by decide +kernel
theorem dX9_count_105 : decode cX9_count 105 = .ok (.istore_n 2, 1) := by decide +kernel
theorem dX9_count_106 : decode cX9_count 106 = .ok (.iinc 4 1, 3) := by decide +kernel
theorem dX9_count_109 : decode cX9_count 109 = .ok (.goto (-19), 3) := by decide +kernel
theorem dX9_count_112 : decode cX9_count 112 = .ok (.iinc 3 1, 3) := by decide +kernel
theorem dX9_count_115 : decode cX9_count 115 = .ok (.goto (-38), 3) := by decide +kernel
theorem dX9_count_118 : decode cX9_count 118 = .ok (.iload_n 2, 1) := by decide +kernel
theorem dX9_count_119 : decode cX9_count 119 = .ok (.ireturn, 1) := by decide +kernel
theorem dX9_count_120 : decode cX9_count 120 = .ok (.aload_n 0, 1) := by decide +kernel
theorem dX9_count_121 : decode cX9_count 121 = .ok (.invokevirtual 232, 3) := by decide +kernel
theorem dX9_count_124 : decode cX9_count 124 = .ok (.iconst 0, 1) := by decide +kernel
theorem dX9_count_125 : decode cX9_count 125 = .ok (.istore_n 3, 1) := by decide +kernel
theorem dX9_count_126 : decode cX9_count 126 = .ok (.iload_n 3, 1) := by decide +kernel
theorem dX9_count_127 : decode cX9_count 127 = .ok (.aload_n 0, 1) := by decide +kernel
theorem dX9_count_128 : decode cX9_count 128 = .ok (.getfield 13, 3) := by decide +kernel
theorem dX9_count_131 : decode cX9_count 131 = .ok (.iconst 0, 1) := by decide +kernel
theorem dX9_count_132 : decode cX9_count 132 = .ok (.iaload, 1) := by decide +kernel
theorem dX9_count_133 : decode cX9_count 133 = .ok (.if_icmp .ge 18, 3) := by decide +kernel
theorem dX9_count_136 : decode cX9_count 136 = .ok (.iload_n 2, 1) := by decide +kernel
theorem dX9_count_137 : decode cX9_count 137 = .ok (.aload_n 0, 1) := by decide +kernel
theorem dX9_count_138 : decode cX9_count 138 = .ok (.getfield 58, 3) := by decide +kernel
theorem dX9_count_141 : decode cX9_count 141 = .ok (.iload_n 3, 1) := by decide +kernel
theorem dX9_count_142 : decode cX9_count 142 = .ok (.iaload, 1) := by decide +kernel
theorem dX9_count_143 : decode cX9_count 143 = .ok (.iadd, 1) := by decide +kernel
theorem dX9_count_144 : decode cX9_count 144 = .ok (.istore_n 2, 1) := by decide +kernel
theorem dX9_count_145 : decode cX9_count 145 = .ok (.iinc 3 1, 3) := by decide +kernel
theorem dX9_count_148 : decode cX9_count 148 = .ok (.goto (-22), 3) := by decide +kernel
theorem dX9_count_151 : decode cX9_count 151 = .ok (.iload_n 2, 1) := by decide +kernel
theorem dX9_count_152 : decode cX9_count 152 = .ok (.ireturn, 1) := by decide +kernel
theorem dX9_count_153 : decode cX9_count 153 = .ok (.iconst 0, 1) := by decide +kernel
theorem dX9_count_154 : decode cX9_count 154 = .ok (.istore_n 3, 1) := by decide +kernel
theorem dX9_count_155 : decode cX9_count 155 = .ok (.iload_n 3, 1) := by decide +kernel
theorem dX9_count_156 : decode cX9_count 156 = .ok (.aload_n 0, 1) := by decide +kernel
theorem dX9_count_157 : decode cX9_count 157 = .ok (.getfield 13, 3) := by decide +kernel
theorem dX9_count_160 : decode cX9_count 160 = .ok (.iconst 1, 1) := by decide +kernel
theorem dX9_count_161 : decode cX9_count 161 = .ok (.iaload, 1) := by decide +kernel
theorem dX9_count_162 : decode cX9_count 162 = .ok (.if_icmp .ge 49, 3) := by decide +kernel
theorem dX9_count_165 : decode cX9_count 165 = .ok (.iconst 1, 1) := by decide +kernel
theorem dX9_count_166 : decode cX9_count 166 = .ok (.istore 4, 2) := by decide +kernel
theorem dX9_count_168 : decode cX9_count 168 = .ok (.iload 4, 2) := by decide +kernel
theorem dX9_count_170 : decode cX9_count 170 = .ok (.iconst 4, 1) := by decide +kernel
theorem dX9_count_171 : decode cX9_count 171 = .ok (.if_icmp .ge 34, 3) := by decide +kernel
theorem dX9_count_174 : decode cX9_count 174 = .ok (.iload_n 2, 1) := by decide +kernel
theorem dX9_count_175 : decode cX9_count 175 = .ok (.aload_n 0, 1) := by decide +kernel
theorem dX9_count_176 : decode cX9_count 176 = .ok (.getfield 13, 3) := by decide +kernel
theorem dX9_count_179 : decode cX9_count 179 = .ok (.bipush 40, 2) := by decide +kernel
theorem dX9_count_181 : decode cX9_count 181 = .ok (.iconst 4, 1) := by decide +kernel
theorem dX9_count_182 : decode cX9_count 182 = .ok (.iload_n 3, 1) := by decide +kernel
theorem dX9_count_183 : decode cX9_count 183 = .ok (.imul, 1) := by decide +kernel
theorem dX9_count_184 : decode cX9_count 184 = .ok (.iadd, 1) := by decide +kernel
theorem dX9_count_185 : decode cX9_count 185 = .ok (.iload 4, 2) := by decide +kernel
theorem dX9_count_187 : decode cX9_count 187 = .ok (.iadd, 1) := by decide +kernel
theorem dX9_count_188 : decode cX9_count 188 = .ok (.iaload, 1) := by decide +kernel
theorem dX9_count_189 : decode cX9_count 189 = .ok (.ifCond .lt 7, 3) := by decide +kernel
theorem dX9_count_192 : decode cX9_count 192 = .ok (.iconst 1, 1) := by decide +kernel
theorem dX9_count_193 : decode cX9_count 193 = .ok (.goto 4, 3) := by decide +kernel
theorem dX9_count_196 : decode cX9_count 196 = .ok (.iconst 0, 1) := by decide +kernel
theorem dX9_count_197 : decode cX9_count 197 = .ok (.iadd, 1) := by decide +kernel
theorem dX9_count_198 : decode cX9_count 198 = .ok (.istore_n 2, 1) := by decide +kernel
theorem dX9_count_199 : decode cX9_count 199 = .ok (.iinc 4 1, 3) := by decide +kernel
theorem dX9_count_202 : decode cX9_count 202 = .ok (.goto (-34), 3) := by decide +kernel
theorem dX9_count_205 : decode cX9_count 205 = .ok (.iinc 3 1, 3) := by decide +kernel
theorem dX9_count_208 : decode cX9_count 208 = .ok (.goto (-53), 3) := by decide +kernel
theorem dX9_count_211 : decode cX9_count 211 = .ok (.iload_n 2, 1) := by decide +kernel
theorem dX9_count_212 : decode cX9_count 212 = .ok (.ireturn, 1) := by decide +kernel
theorem dX9_count_213 : decode cX9_count 213 = .ok (.aload_n 0, 1) := by decide +kernel
theorem dX9_count_214 : decode cX9_count 214 = .ok (.getfield 263, 3) := by decide +kernel
theorem dX9_count_217 : decode cX9_count 217 = .ok (.ireturn, 1) := by decide +kernel
theorem dX9_count_218 : decode cX9_count 218 = .ok (.aload_n 0, 1) := by decide +kernel
theorem dX9_count_219 : decode cX9_count 219 = .ok (.getfield 90, 3) := by decide +kernel
theorem dX9_count_222 : decode cX9_count 222 = .ok (.ireturn, 1) := by decide +kernel
theorem dX9_count_223 : decode cX9_count 223 = .ok (.bipush (-9), 2) := by decide +kernel
theorem dX9_count_225 : decode cX9_count 225 = .ok (.ireturn, 1) := by decide +kernel
