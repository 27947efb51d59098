theorem dX0_init_0 : decode cX0_init 0 = .ok (.aload_n 0, 1) := by decide +kernel
theorem dX0_init_1 : decode cX0_init 1 = .ok (.invokespecial 3, 3) := by decide +kernel
theorem dX0_init_4 : decode cX0_init 4 = .ok (.aload_n 0, 1) := by decide +kernel
theorem dX0_init_5 : decode cX0_init 5 = .ok (.iconst 0, 1) := by decide +kernel
theorem dX0_init_6 : decode cX0_init 6 = .ok (.putfield 9, 3) := by decide +kernel
theorem dX0_init_9 : decode cX0_init 9 = .ok (.aload_n 0, 1) := by decide +kernel
theorem dX0_init_10 : decode cX0_init 10 = .ok (.sipush 500, 3) := by decide +kernel
theorem dX0_init_13 : decode cX0_init 13 = .ok (.newarray .int, 2) := by decide +kernel
theorem dX0_init_15 : decode cX0_init 15 = .ok (.putfield 15, 3) := by decide +kernel
theorem dX0_init_18 : decode cX0_init 18 = .ok (.aload_n 0, 1) := by decide +kernel
theorem dX0_init_19 : decode cX0_init 19 = .ok (.sipush 500, 3) := by decide +kernel
theorem dX0_init_22 : decode cX0_init 22 = .ok (.newarray .int, 2) := by decide +kernel
theorem dX0_init_24 : decode cX0_init 24 = .ok (.putfield 19, 3) := by decide +kernel
theorem dX0_init_27 : decode cX0_init 27 = .ok (.aload_n 0, 1) := by decide +kernel
theorem dX0_init_28 : decode cX0_init 28 = .ok (.sipush 500, 3) := by decide +kernel
theorem dX0_init_31 : decode cX0_init 31 = .ok (.newarray .int, 2) := by decide +kernel
theorem dX0_init_33 : decode cX0_init 33 = .ok (.putfield 22, 3) := by decide +kernel
theorem dX0_init_36 : decode cX0_init 36 = .ok (.aload_n 0, 1) := by decide +kernel
theorem dX0_init_37 : decode cX0_init 37 = .ok (.sipush 500, 3) := by decide +kernel
theorem dX0_init_40 : decode cX0_init 40 = .ok (.newarray .int, 2) := by decide +kernel
theorem dX0_init_42 : decode cX0_init 42 = .ok (.putfield 25, 3) := by decide +kernel
theorem dX0_init_45 : decode cX0_init 45 = .ok (.aload_n 0, 1) := by decide +kernel
theorem dX0_init_46 : decode cX0_init 46 = .ok (.sipush 500, 3) := by decide +kernel
theorem dX0_init_49 : decode cX0_init 49 = .ok (.newarray .boolean, 2) := by decide +kernel
theorem dX0_init_51 : decode cX0_init 51 = .ok (.putfield 28, 3) := by decide +kernel
theorem dX0_init_54 : decode cX0_init 54 = .ok (.aload_n 0, 1) := by decide +kernel
theorem dX0_init_55 : decode cX0_init 55 = .ok (.iconst 5, 1) := by decide +kernel
theorem dX0_init_56 : decode cX0_init 56 = .ok (.newarray .int, 2) := by decide +kernel
theorem dX0_init_58 : decode cX0_init 58 = .ok (.putfield 32, 3) := by decide +kernel
theorem dX0_init_61 : decode cX0_init 61 = .ok (.aload_n 0, 1) := by decide +kernel
theorem dX0_init_62 : decode cX0_init 62 = .ok (.iconst 5, 1) := by decide +kernel
theorem dX0_init_63 : decode cX0_init 63 = .ok (.newarray .int, 2) := by decide +kernel
theorem dX0_init_65 : decode cX0_init 65 = .ok (.putfield 35, 3) := by decide +kernel
theorem dX0_init_68 : decode cX0_init 68 = .ok (.return_, 1) := by decide +kernel
theorem dX1_init_0 : decode cX1_init 0 = .ok (.aload_n 0, 1) := by decide +kernel
theorem dX1_init_1 : decode cX1_init 1 = .ok (.invokespecial 3, 3) := by decide +kernel
theorem dX1_init_4 : decode cX1_init 4 = .ok (.aload_n 0, 1) := by decide +kernel
theorem dX1_init_5 : decode cX1_init 5 = .ok (.iconst 5, 1) := by decide +kernel
theorem dX1_init_6 : decode cX1_init 6 = .ok (.newarray .int, 2) := by decide +kernel
theorem dX1_init_8 : decode cX1_init 8 = .ok (.putfield 9, 3) := by decide +kernel
theorem dX1_init_11 : decode cX1_init 11 = .ok (.aload_n 0, 1) := by decide +kernel
theorem dX1_init_12 : decode cX1_init 12 = .ok (.iconst 5, 1) := by decide +kernel
theorem dX1_init_13 : decode cX1_init 13 = .ok (.newarray .int, 2) := by decide +kernel
theorem dX1_init_15 : decode cX1_init 15 = .ok (.putfield 15, 3) := by decide +kernel
theorem dX1_init_18 : decode cX1_init 18 = .ok (.aload_n 0, 1) := by decide +kernel
theorem dX1_init_19 : decode cX1_init 19 = .ok (.iconst 5, 1) := by decide +kernel
theorem dX1_init_20 : decode cX1_init 20 = .ok (.newarray .int, 2) := by decide +kernel
theorem dX1_init_22 : decode cX1_init 22 = .ok (.putfield 18, 3) := by decide +kernel
theorem dX1_init_25 : decode cX1_init 25 = .ok (.aload_n 0, 1) := by decide +kernel
theorem dX1_init_26 : decode cX1_init 26 = .ok (.bipush 6, 2) := by decide +kernel
theorem dX1_init_28 : decode cX1_init 28 = .ok (.anewarray 21, 3) := by decide +kernel
theorem dX1_init_31 : decode cX1_init 31 = .ok (.putfield 23, 3) := by decide +kernel
theorem dX1_init_34 : decode cX1_init 34 = .ok (.iconst 0, 1) := by decide +kernel
theorem dX1_init_35 : decode cX1_init 35 = .ok (.istore_n 1, 1) := by decide +kernel
theorem dX1_init_36 : decode cX1_init 36 = .ok (.iload_n 1, 1) := by decide +kernel
theorem dX1_init_37 : decode cX1_init 37 = .ok (.bipush 6, 2) := by decide +kernel
theorem dX1_init_39 : decode cX1_init 39 = .ok (.if_icmp .ge 22, 3) := by decide +kernel
theorem dX1_init_42 : decode cX1_init 42 = .ok (.aload_n 0, 1) := by decide +kernel
theorem dX1_init_43 : decode cX1_init 43 = .ok (.getfield 23, 3) := by decide +kernel
theorem dX1_init_46 : decode cX1_init 46 = .ok (.iload_n 1, 1) := by decide +kernel
theorem dX1_init_47 : decode cX1_init 47 = .ok (.new 21, 3) := by decide +kernel
theorem dX1_init_50 : decode cX1_init 50 = .ok (.dup, 1) := by decide +kernel
theorem dX1_init_51 : decode cX1_init 51 = .ok (.invokespecial 27, 3) := by decide +kernel
theorem dX1_init_54 : decode cX1_init 54 = .ok (.aastore, 1) := by decide +kernel
theorem dX1_init_55 : decode cX1_init 55 = .ok (.iinc 1 1, 3) := by decide +kernel
theorem dX1_init_58 : decode cX1_init 58 = .ok (.goto (-22), 3) := by decide +kernel
theorem dX1_init_61 : decode cX1_init 61 = .ok (.aload_n 0, 1) := by decide +kernel
theorem dX1_init_62 : decode cX1_init 62 = .ok (.new 28, 3) := by decide +kernel
theorem dX1_init_65 : decode cX1_init 65 = .ok (.dup, 1) := by decide +kernel
theorem dX1_init_66 : decode cX1_init 66 = .ok (.invokespecial 30, 3) := by decide +kernel
theorem dX1_init_69 : decode cX1_init 69 = .ok (.putfield 31, 3) := by decide +kernel
theorem dX1_init_72 : decode cX1_init 72 = .ok (.aload_n 0, 1) := by decide +kernel
theorem dX1_init_73 : decode cX1_init 73 = .ok (.new 35, 3) := by decide +kernel
theorem dX1_init_76 : decode cX1_init 76 = .ok (.dup, 1) := by decide +kernel
theorem dX1_init_77 : decode cX1_init 77 = .ok (.invokespecial 37, 3) := by decide +kernel
theorem dX1_init_80 : decode cX1_init 80 = .ok (.putfield 38, 3) := by decide +kernel
theorem dX1_init_83 : decode cX1_init 83 = .ok (.aload_n 0, 1) := by decide +kernel
theorem dX1_init_84 : decode cX1_init 84 = .ok (.iconst (-1), 1) := by decide +kernel
theorem dX1_init_85 : decode cX1_init 85 = .ok (.putfield 42, 3) := by decide +kernel
theorem dX1_init_88 : decode cX1_init 88 = .ok (.return_, 1) := by decide +kernel
theorem dX2_init_0 : decode cX2_init 0 = .ok (.aload_n 0, 1) := by decide +kernel
theorem dX2_init_1 : decode cX2_init 1 = .ok (.invokespecial 3, 3) := by decide +kernel
theorem dX2_init_4 : decode cX2_init 4 = .ok (.aload_n 0, 1) := by decide +kernel
theorem dX2_init_5 : decode cX2_init 5 = .ok (.iconst 0, 1) := by decide +kernel
theorem dX2_init_6 : decode cX2_init 6 = .ok (.putfield 9, 3) := by decide +kernel
theorem dX2_init_9 : decode cX2_init 9 = .ok (.aload_n 0, 1) := by decide +kernel
theorem dX2_init_10 : decode cX2_init 10 = .ok (.iconst 0, 1) := by decide +kernel
theorem dX2_init_11 : decode cX2_init 11 = .ok (.putfield 15, 3) := by decide +kernel
theorem dX2_init_14 : decode cX2_init 14 = .ok (.aload_n 0, 1) := by decide +kernel
theorem dX2_init_15 : decode cX2_init 15 = .ok (.iconst 5, 1) := by decide +kernel
theorem dX2_init_16 : decode cX2_init 16 = .ok (.newarray .int, 2) := by decide +kernel
theorem dX2_init_18 : decode cX2_init 18 = .ok (.putfield 18, 3) := by decide +kernel
theorem dX2_init_21 : decode cX2_init 21 = .ok (.aload_n 0, 1) := by decide +kernel
theorem dX2_init_22 : decode cX2_init 22 = .ok (.iconst 5, 1) := by decide +kernel
theorem dX2_init_23 : decode cX2_init 23 = .ok (.newarray .int, 2) := by decide +kernel
theorem dX2_init_25 : decode cX2_init 25 = .ok (.putfield 22, 3) := by decide +kernel
theorem dX2_init_28 : decode cX2_init 28 = .ok (.aload_n 0, 1) := by decide +kernel
theorem dX2_init_29 : decode cX2_init 29 = .ok (.bipush 20, 2) := by decide +kernel
theorem dX2_init_31 : decode cX2_init 31 = .ok (.newarray .int, 2) := by decide +kernel
theorem dX2_init_33 : decode cX2_init 33 = .ok (.putfield 25, 3) := by decide +kernel
theorem dX2_init_36 : decode cX2_init 36 = .ok (.aload_n 0, 1) := by decide +kernel
theorem dX2_init_37 : decode cX2_init 37 = .ok (.bipush 20, 2) := by decide +kernel
theorem dX2_init_39 : decode cX2_init 39 = .ok (.newarray .int, 2) := by decide +kernel
theorem dX2_init_41 : decode cX2_init 41 = .ok (.putfield 28, 3) := by decide +kernel
theorem dX2_init_44 : decode cX2_init 44 = .ok (.aload_n 0, 1) := by decide +kernel
theorem dX2_init_45 : decode cX2_init 45 = .ok (.bipush 24, 2) := by decide +kernel
theorem dX2_init_47 : decode cX2_init 47 = .ok (.newarray .int, 2) := by decide +kernel
theorem dX2_init_49 : decode cX2_init 49 = .ok (.putfield 31, 3) := by decide +kernel
theorem dX2_init_52 : decode cX2_init 52 = .ok (.aload_n 0, 1) := by decide +kernel
theorem dX2_init_53 : decode cX2_init 53 = .ok (.bipush 8, 2) := by decide +kernel
theorem dX2_init_55 : decode cX2_init 55 = .ok (.newarray .int, 2) := by decide +kernel
theorem dX2_init_57 : decode cX2_init 57 = .ok (.putfield 34, 3) := by decide +kernel
theorem dX2_init_60 : decode cX2_init 60 = .ok (.iconst 0, 1) := by decide +kernel
theorem dX2_init_61 : decode cX2_init 61 = .ok (.istore_n 1, 1) := by decide +kernel
theorem dX2_init_62 : decode cX2_init 62 = .ok (.iload_n 1, 1) := by decide +kernel
theorem dX2_init_63 : decode cX2_init 63 = .ok (.bipush 8, 2) := by decide +kernel
theorem dX2_init_65 : decode cX2_init 65 = .ok (.if_icmp .ge 20, 3) := by decide +kernel
theorem dX2_init_68 : decode cX2_init 68 = .ok (.aload_n 0, 1) := by decide +kernel
theorem dX2_init_69 : decode cX2_init 69 = .ok (.getfield 34, 3) := by decide +kernel
theorem dX2_init_72 : decode cX2_init 72 = .ok (.iload_n 1, 1) := by decide +kernel
theorem dX2_init_73 : decode cX2_init 73 = .ok (.getstatic 37, 3) := by decide +kernel
theorem dX2_init_76 : decode cX2_init 76 = .ok (.iload_n 1, 1) := by decide +kernel
theorem dX2_init_77 : decode cX2_init 77 = .ok (.iaload, 1) := by decide +kernel
theorem dX2_init_78 : decode cX2_init 78 = .ok (.iastore, 1) := by decide +kernel
theorem dX2_init_79 : decode cX2_init 79 = .ok (.iinc 1 1, 3) := by decide +kernel
theorem dX2_init_82 : decode cX2_init 82 = .ok (.goto (-20), 3) := by decide +kernel
theorem dX2_init_85 : decode cX2_init 85 = .ok (.return_, 1) := by decide +kernel
theorem dX3_init_0 : decode cX3_init 0 = .ok (.aload_n 0, 1) := by decide +kernel
theorem dX3_init_1 : decode cX3_init 1 = .ok (.invokespecial 1, 3) := by decide +kernel
theorem dX3_init_4 : decode cX3_init 4 = .ok (.aload_n 0, 1) := by decide +kernel
theorem dX3_init_5 : decode cX3_init 5 = .ok (.iconst (-1), 1) := by decide +kernel
theorem dX3_init_6 : decode cX3_init 6 = .ok (.putfield 7, 3) := by decide +kernel
theorem dX3_init_9 : decode cX3_init 9 = .ok (.aload_n 0, 1) := by decide +kernel
theorem dX3_init_10 : decode cX3_init 10 = .ok (.iconst (-1), 1) := by decide +kernel
theorem dX3_init_11 : decode cX3_init 11 = .ok (.putfield 13, 3) := by decide +kernel
theorem dX3_init_14 : decode cX3_init 14 = .ok (.aload_n 0, 1) := by decide +kernel
theorem dX3_init_15 : decode cX3_init 15 = .ok (.iconst (-1), 1) := by decide +kernel
theorem dX3_init_16 : decode cX3_init 16 = .ok (.putfield 16, 3) := by decide +kernel
theorem dX3_init_19 : decode cX3_init 19 = .ok (.return_, 1) := by decide +kernel
theorem dX4_init_0 : decode cX4_init 0 = .ok (.aload_n 0, 1) := by decide +kernel
theorem dX4_init_1 : decode cX4_init 1 = .ok (.invokespecial 3, 3) := by decide +kernel
theorem dX4_init_4 : decode cX4_init 4 = .ok (.aload_n 0, 1) := by decide +kernel
theorem dX4_init_5 : decode cX4_init 5 = .ok (.new 9, 3) := by decide +kernel
theorem dX4_init_8 : decode cX4_init 8 = .ok (.dup, 1) := by decide +kernel
theorem dX4_init_9 : decode cX4_init 9 = .ok (.invokespecial 11, 3) := by decide +kernel
theorem dX4_init_12 : decode cX4_init 12 = .ok (.putfield 12, 3) := by decide +kernel
theorem dX4_init_15 : decode cX4_init 15 = .ok (.return_, 1) := by decide +kernel
theorem dX5_init_0 : decode cX5_init 0 = .ok (.aload_n 0, 1) := by decide +kernel
theorem dX5_init_1 : decode cX5_init 1 = .ok (.invokespecial 3, 3) := by decide +kernel
theorem dX5_init_4 : decode cX5_init 4 = .ok (.aload_n 0, 1) := by decide +kernel
theorem dX5_init_5 : decode cX5_init 5 = .ok (.iconst 5, 1) := by decide +kernel
theorem dX5_init_6 : decode cX5_init 6 = .ok (.newarray .int, 2) := by decide +kernel
theorem dX5_init_8 : decode cX5_init 8 = .ok (.putfield 9, 3) := by decide +kernel
theorem dX5_init_11 : decode cX5_init 11 = .ok (.return_, 1) := by decide +kernel
theorem dX6_init_0 : decode cX6_init 0 = .ok (.aload_n 0, 1) := by decide +kernel
theorem dX6_init_1 : decode cX6_init 1 = .ok (.invokespecial 3, 3) := by decide +kernel
theorem dX6_init_4 : decode cX6_init 4 = .ok (.aload_n 0, 1) := by decide +kernel
theorem dX6_init_5 : decode cX6_init 5 = .ok (.iconst 0, 1) := by decide +kernel
theorem dX6_init_6 : decode cX6_init 6 = .ok (.putfield 9, 3) := by decide +kernel
theorem dX6_init_9 : decode cX6_init 9 = .ok (.aload_n 0, 1) := by decide +kernel
theorem dX6_init_10 : decode cX6_init 10 = .ok (.bipush 64, 2) := by decide +kernel
theorem dX6_init_12 : decode cX6_init 12 = .ok (.newarray .int, 2) := by decide +kernel
theorem dX6_init_14 : decode cX6_init 14 = .ok (.putfield 15, 3) := by decide +kernel
theorem dX6_init_17 : decode cX6_init 17 = .ok (.aload_n 0, 1) := by decide +kernel
theorem dX6_init_18 : decode cX6_init 18 = .ok (.iconst 3, 1) := by decide +kernel
theorem dX6_init_19 : decode cX6_init 19 = .ok (.newarray .int, 2) := by decide +kernel
theorem dX6_init_21 : decode cX6_init 21 = .ok (.putfield 19, 3) := by decide +kernel
theorem dX6_init_24 : decode cX6_init 24 = .ok (.aload_n 0, 1) := by decide +kernel
theorem dX6_init_25 : decode cX6_init 25 = .ok (.new 22, 3) := by decide +kernel
theorem dX6_init_28 : decode cX6_init 28 = .ok (.dup, 1) := by decide +kernel
theorem dX6_init_29 : decode cX6_init 29 = .ok (.invokespecial 24, 3) := by decide +kernel
theorem dX6_init_32 : decode cX6_init 32 = .ok (.putfield 25, 3) := by decide +kernel
theorem dX6_init_35 : decode cX6_init 35 = .ok (.aload_n 0, 1) := by decide +kernel
theorem dX6_init_36 : decode cX6_init 36 = .ok (.iconst 0, 1) := by decide +kernel
theorem dX6_init_37 : decode cX6_init 37 = .ok (.putfield 29, 3) := by decide +kernel
theorem dX6_init_40 : decode cX6_init 40 = .ok (.aload_n 0, 1) := by decide +kernel
theorem dX6_init_41 : decode cX6_init 41 = .ok (.iconst 0, 1) := by decide +kernel
theorem dX6_init_42 : decode cX6_init 42 = .ok (.putfield 32, 3) := by decide +kernel
theorem dX6_init_45 : decode cX6_init 45 = .ok (.return_, 1) := by decide +kernel
theorem dX7_init_0 : decode cX7_init 0 = .ok (.aload_n 0, 1) := by decide +kernel
theorem dX7_init_1 : decode cX7_init 1 = .ok (.invokespecial 3, 3) := by decide +kernel
theorem dX7_init_4 : decode cX7_init 4 = .ok (.aload_n 0, 1) := by decide +kernel
theorem dX7_init_5 : decode cX7_init 5 = .ok (.bipush 6, 2) := by decide +kernel
theorem dX7_init_7 : decode cX7_init 7 = .ok (.newarray .int, 2) := by decide +kernel
theorem dX7_init_9 : decode cX7_init 9 = .ok (.putfield 9, 3) := by decide +kernel
theorem dX7_init_12 : decode cX7_init 12 = .ok (.aload_n 0, 1) := by decide +kernel
theorem dX7_init_13 : decode cX7_init 13 = .ok (.bipush 6, 2) := by decide +kernel
theorem dX7_init_15 : decode cX7_init 15 = .ok (.newarray .int, 2) := by decide +kernel
theorem dX7_init_17 : decode cX7_init 17 = .ok (.putfield 15, 3) := by decide +kernel
theorem dX7_init_20 : decode cX7_init 20 = .ok (.aload_n 0, 1) := by decide +kernel
theorem dX7_init_21 : decode cX7_init 21 = .ok (.iconst 0, 1) := by decide +kernel
theorem dX7_init_22 : decode cX7_init 22 = .ok (.putfield 18, 3) := by decide +kernel
theorem dX7_init_25 : decode cX7_init 25 = .ok (.return_, 1) := by decide +kernel
theorem dX8_init_0 : decode cX8_init 0 = .ok (.aload_n 0, 1) := by decide +kernel
theorem dX8_init_1 : decode cX8_init 1 = .ok (.invokespecial 1, 3) := by decide +kernel
theorem dX8_init_4 : decode cX8_init 4 = .ok (.aload_n 0, 1) := by decide +kernel
theorem dX8_init_5 : decode cX8_init 5 = .ok (.new 7, 3) := by decide +kernel
theorem dX8_init_8 : decode cX8_init 8 = .ok (.dup, 1) := by decide +kernel
theorem dX8_init_9 : decode cX8_init 9 = .ok (.invokespecial 9, 3) := by decide +kernel
theorem dX8_init_12 : decode cX8_init 12 = .ok (.putfield 10, 3) := by decide +kernel
theorem dX8_init_15 : decode cX8_init 15 = .ok (.aload_n 0, 1) := by decide +kernel
theorem dX8_init_16 : decode cX8_init 16 = .ok (.new 7, 3) := by decide +kernel
theorem dX8_init_19 : decode cX8_init 19 = .ok (.dup, 1) := by decide +kernel
theorem dX8_init_20 : decode cX8_init 20 = .ok (.invokespecial 9, 3) := by decide +kernel
theorem dX8_init_23 : decode cX8_init 23 = .ok (.putfield 16, 3) := by decide +kernel
theorem dX8_init_26 : decode cX8_init 26 = .ok (.aload_n 0, 1) := by decide +kernel
theorem dX8_init_27 : decode cX8_init 27 = .ok (.new 19, 3) := by decide +kernel
theorem dX8_init_30 : decode cX8_init 30 = .ok (.dup, 1) := by decide +kernel
theorem dX8_init_31 : decode cX8_init 31 = .ok (.invokespecial 21, 3) := by decide +kernel
theorem dX8_init_34 : decode cX8_init 34 = .ok (.putfield 22, 3) := by decide +kernel
theorem dX8_init_37 : decode cX8_init 37 = .ok (.aload_n 0, 1) := by decide +kernel
theorem dX8_init_38 : decode cX8_init 38 = .ok (.new 26, 3) := by decide +kernel
theorem dX8_init_41 : decode cX8_init 41 = .ok (.dup, 1) := by decide +kernel
theorem dX8_init_42 : decode cX8_init 42 = .ok (.invokespecial 28, 3) := by decide +kernel
theorem dX8_init_45 : decode cX8_init 45 = .ok (.putfield 29, 3) := by decide +kernel
theorem dX8_init_48 : decode cX8_init 48 = .ok (.aload_n 0, 1) := by decide +kernel
theorem dX8_init_49 : decode cX8_init 49 = .ok (.new 33, 3) := by decide +kernel
theorem dX8_init_52 : decode cX8_init 52 = .ok (.dup, 1) := by decide +kernel
theorem dX8_init_53 : decode cX8_init 53 = .ok (.invokespecial 35, 3) := by decide +kernel
theorem dX8_init_56 : decode cX8_init 56 = .ok (.putfield 36, 3) := by decide +kernel
theorem dX8_init_59 : decode cX8_init 59 = .ok (.aload_n 0, 1) := by decide +kernel
theorem dX8_init_60 : decode cX8_init 60 = .ok (.new 40, 3) := by decide +kernel
theorem dX8_init_63 : decode cX8_init 63 = .ok (.dup, 1) := by decide +kernel
theorem dX8_init_64 : decode cX8_init 64 = .ok (.invokespecial 42, 3) := by decide +kernel
theorem dX8_init_67 : decode cX8_init 67 = .ok (.putfield 43, 3) := by decide +kernel
theorem dX8_init_70 : decode cX8_init 70 = .ok (.aload_n 0, 1) := by decide +kernel
theorem dX8_init_71 : decode cX8_init 71 = .ok (.new 47, 3) := by decide +kernel
theorem dX8_init_74 : decode cX8_init 74 = .ok (.dup, 1) := by decide +kernel
theorem dX8_init_75 : decode cX8_init 75 = .ok (.invokespecial 49, 3) := by decide +kernel
theorem dX8_init_78 : decode cX8_init 78 = .ok (.putfield 50, 3) := by decide +kernel
theorem dX8_init_81 : decode cX8_init 81 = .ok (.aload_n 0, 1) := by decide +kernel
theorem dX8_init_82 : decode cX8_init 82 = .ok (.iconst 5, 1) := by decide +kernel
theorem dX8_init_83 : decode cX8_init 83 = .ok (.newarray .int, 2) := by decide +kernel
theorem dX8_init_85 : decode cX8_init 85 = .ok (.putfield 54, 3) := by decide +kernel
theorem dX8_init_88 : decode cX8_init 88 = .ok (.aload_n 0, 1) := by decide +kernel
theorem dX8_init_89 : decode cX8_init 89 = .ok (.bipush 7, 2) := by decide +kernel
theorem dX8_init_91 : decode cX8_init 91 = .ok (.newarray .int, 2) := by decide +kernel
theorem dX8_init_93 : decode cX8_init 93 = .ok (.putfield 58, 3) := by decide +kernel
theorem dX8_init_96 : decode cX8_init 96 = .ok (.aload_n 0, 1) := by decide +kernel
theorem dX8_init_97 : decode cX8_init 97 = .ok (.iconst 0, 1) := by decide +kernel
theorem dX8_init_98 : decode cX8_init 98 = .ok (.putfield 61, 3) := by decide +kernel
theorem dX8_init_101 : decode cX8_init 101 = .ok (.aload_n 0, 1) := by decide +kernel
theorem dX8_init_102 : decode cX8_init 102 = .ok (.iconst 0, 1) := by decide +kernel
theorem dX8_init_103 : decode cX8_init 103 = .ok (.putfield 65, 3) := by decide +kernel
theorem dX8_init_106 : decode cX8_init 106 = .ok (.return_, 1) := by decide +kernel
theorem dX9_init_0 : decode cX9_init 0 = .ok (.aload_n 0, 1) := by decide +kernel
theorem dX9_init_1 : decode cX9_init 1 = .ok (.invokespecial 1, 3) := by decide +kernel
theorem dX9_init_4 : decode cX9_init 4 = .ok (.aload_n 0, 1) := by decide +kernel
theorem dX9_init_5 : decode cX9_init 5 = .ok (.bipush 7, 2) := by decide +kernel
theorem dX9_init_7 : decode cX9_init 7 = .ok (.newarray .int, 2) := by decide +kernel
theorem dX9_init_9 : decode cX9_init 9 = .ok (.putfield 7, 3) := by decide +kernel
theorem dX9_init_12 : decode cX9_init 12 = .ok (.aload_n 0, 1) := by decide +kernel
theorem dX9_init_13 : decode cX9_init 13 = .ok (.bipush 64, 2) := by decide +kernel
theorem dX9_init_15 : decode cX9_init 15 = .ok (.newarray .int, 2) := by decide +kernel
theorem dX9_init_17 : decode cX9_init 17 = .ok (.putfield 13, 3) := by decide +kernel
theorem dX9_init_20 : decode cX9_init 20 = .ok (.aload_n 0, 1) := by decide +kernel
theorem dX9_init_21 : decode cX9_init 21 = .ok (.bipush 64, 2) := by decide +kernel
theorem dX9_init_23 : decode cX9_init 23 = .ok (.newarray .int, 2) := by decide +kernel
theorem dX9_init_25 : decode cX9_init 25 = .ok (.putfield 16, 3) := by decide +kernel
theorem dX9_init_28 : decode cX9_init 28 = .ok (.aload_n 0, 1) := by decide +kernel
theorem dX9_init_29 : decode cX9_init 29 = .ok (.bipush 64, 2) := by decide +kernel
theorem dX9_init_31 : decode cX9_init 31 = .ok (.newarray .int, 2) := by decide +kernel
theorem dX9_init_33 : decode cX9_init 33 = .ok (.putfield 19, 3) := by decide +kernel
theorem dX9_init_36 : decode cX9_init 36 = .ok (.aload_n 0, 1) := by decide +kernel
theorem dX9_init_37 : decode cX9_init 37 = .ok (.bipush 64, 2) := by decide +kernel
theorem dX9_init_39 : decode cX9_init 39 = .ok (.newarray .int, 2) := by decide +kernel
theorem dX9_init_41 : decode cX9_init 41 = .ok (.putfield 22, 3) := by decide +kernel
theorem dX9_init_44 : decode cX9_init 44 = .ok (.aload_n 0, 1) := by decide +kernel
theorem dX9_init_45 : decode cX9_init 45 = .ok (.bipush 64, 2) := by decide +kernel
theorem dX9_init_47 : decode cX9_init 47 = .ok (.newarray .int, 2) := by decide +kernel
theorem dX9_init_49 : decode cX9_init 49 = .ok (.putfield 25, 3) := by decide +kernel
theorem dX9_init_52 : decode cX9_init 52 = .ok (.aload_n 0, 1) := by decide +kernel
theorem dX9_init_53 : decode cX9_init 53 = .ok (.iconst 3, 1) := by decide +kernel
theorem dX9_init_54 : decode cX9_init 54 = .ok (.newarray .int, 2) := by decide +kernel
theorem dX9_init_56 : decode cX9_init 56 = .ok (.putfield 28, 3) := by decide +kernel
theorem dX9_init_59 : decode cX9_init 59 = .ok (.aload_n 0, 1) := by decide +kernel
theorem dX9_init_60 : decode cX9_init 60 = .ok (.sipush 360, 3) := by decide +kernel
theorem dX9_init_63 : decode cX9_init 63 = .ok (.newarray .int, 2) := by decide +kernel
theorem dX9_init_65 : decode cX9_init 65 = .ok (.putfield 31, 3) := by decide +kernel
theorem dX9_init_68 : decode cX9_init 68 = .ok (.aload_n 0, 1) := by decide +kernel
theorem dX9_init_69 : decode cX9_init 69 = .ok (.sipush 360, 3) := by decide +kernel
theorem dX9_init_72 : decode cX9_init 72 = .ok (.newarray .int, 2) := by decide +kernel
theorem dX9_init_74 : decode cX9_init 74 = .ok (.putfield 34, 3) := by decide +kernel
theorem dX9_init_77 : decode cX9_init 77 = .ok (.aload_n 0, 1) := by decide +kernel
theorem dX9_init_78 : decode cX9_init 78 = .ok (.sipush 360, 3) := by decide +kernel
theorem dX9_init_81 : decode cX9_init 81 = .ok (.newarray .int, 2) := by decide +kernel
theorem dX9_init_83 : decode cX9_init 83 = .ok (.putfield 37, 3) := by decide +kernel
theorem dX9_init_86 : decode cX9_init 86 = .ok (.aload_n 0, 1) := by decide +kernel
theorem dX9_init_87 : decode cX9_init 87 = .ok (.sipush 360, 3) := by decide +kernel
theorem dX9_init_90 : decode cX9_init 90 = .ok (.newarray .int, 2) := by decide +kernel
theorem dX9_init_92 : decode cX9_init 92 = .ok (.putfield 40, 3) := by decide +kernel
theorem dX9_init_95 : decode cX9_init 95 = .ok (.aload_n 0, 1) := by decide +kernel
theorem dX9_init_96 : decode cX9_init 96 = .ok (.bipush 6, 2) := by decide +kernel
theorem dX9_init_98 : decode cX9_init 98 = .ok (.newarray .int, 2) := by decide +kernel
theorem dX9_init_100 : decode cX9_init 100 = .ok (.putfield 43, 3) := by decide +kernel
theorem dX9_init_103 : decode cX9_init 103 = .ok (.aload_n 0, 1) := by decide +kernel
theorem dX9_init_104 : decode cX9_init 104 = .ok (.bipush 6, 2) := by decide +kernel
theorem dX9_init_106 : decode cX9_init 106 = .ok (.newarray .int, 2) := by decide +kernel
theorem dX9_init_108 : decode cX9_init 108 = .ok (.putfield 46, 3) := by decide +kernel
theorem dX9_init_111 : decode cX9_init 111 = .ok (.aload_n 0, 1) := by decide +kernel
theorem dX9_init_112 : decode cX9_init 112 = .ok (.bipush 6, 2) := by decide +kernel
theorem dX9_init_114 : decode cX9_init 114 = .ok (.newarray .int, 2) := by decide +kernel
theorem dX9_init_116 : decode cX9_init 116 = .ok (.putfield 49, 3) := by decide +kernel
theorem dX9_init_119 : decode cX9_init 119 = .ok (.aload_n 0, 1) := by decide +kernel
theorem dX9_init_120 : decode cX9_init 120 = .ok (.iconst 5, 1) := by decide +kernel
theorem dX9_init_121 : decode cX9_init 121 = .ok (.newarray .int, 2) := by decide +kernel
theorem dX9_init_123 : decode cX9_init 123 = .ok (.putfield 52, 3) := by decide +kernel
theorem dX9_init_126 : decode cX9_init 126 = .ok (.aload_n 0, 1) := by decide +kernel
theorem dX9_init_127 : decode cX9_init 127 = .ok (.iconst 5, 1) := by decide +kernel
theorem dX9_init_128 : decode cX9_init 128 = .ok (.newarray .int, 2) := by decide +kernel
theorem dX9_init_130 : decode cX9_init 130 = .ok (.putfield 55, 3) := by decide +kernel
theorem dX9_init_133 : decode cX9_init 133 = .ok (.aload_n 0, 1) := by decide +kernel
theorem dX9_init_134 : decode cX9_init 134 = .ok (.iconst 5, 1) := by decide +kernel
theorem dX9_init_135 : decode cX9_init 135 = .ok (.newarray .int, 2) := by decide +kernel
theorem dX9_init_137 : decode cX9_init 137 = .ok (.putfield 58, 3) := by decide +kernel
theorem dX9_init_140 : decode cX9_init 140 = .ok (.aload_n 0, 1) := by decide +kernel
theorem dX9_init_141 : decode cX9_init 141 = .ok (.iconst 5, 1) := by decide +kernel
theorem dX9_init_142 : decode cX9_init 142 = .ok (.newarray .int, 2) := by decide +kernel
theorem dX9_init_144 : decode cX9_init 144 = .ok (.putfield 61, 3) := by decide +kernel
theorem dX9_init_147 : decode cX9_init 147 = .ok (.aload_n 0, 1) := by decide +kernel
theorem dX9_init_148 : decode cX9_init 148 = .ok (.bipush 6, 2) := by decide +kernel
theorem dX9_init_150 : decode cX9_init 150 = .ok (.newarray .int, 2) := by decide +kernel
theorem dX9_init_152 : decode cX9_init 152 = .ok (.putfield 64, 3) := by decide +kernel
theorem dX9_init_155 : decode cX9_init 155 = .ok (.aload_n 0, 1) := by decide +kernel
theorem dX9_init_156 : decode cX9_init 156 = .ok (.bipush 6, 2) := by decide +kernel
theorem dX9_init_158 : decode cX9_init 158 = .ok (.newarray .int, 2) := by decide +kernel
theorem dX9_init_160 : decode cX9_init 160 = .ok (.putfield 67, 3) := by decide +kernel
theorem dX9_init_163 : decode cX9_init 163 = .ok (.aload_n 0, 1) := by decide +kernel
theorem dX9_init_164 : decode cX9_init 164 = .ok (.bipush 6, 2) := by decide +kernel
theorem dX9_init_166 : decode cX9_init 166 = .ok (.newarray .int, 2) := by decide +kernel
theorem dX9_init_168 : decode cX9_init 168 = .ok (.putfield 70, 3) := by decide +kernel
theorem dX9_init_171 : decode cX9_init 171 = .ok (.aload_n 0, 1) := by decide +kernel
theorem dX9_init_172 : decode cX9_init 172 = .ok (.bipush 6, 2) := by decide +kernel
theorem dX9_init_174 : decode cX9_init 174 = .ok (.newarray .int, 2) := by decide +kernel
theorem dX9_init_176 : decode cX9_init 176 = .ok (.putfield 73, 3) := by decide +kernel
theorem dX9_init_179 : decode cX9_init 179 = .ok (.aload_n 0, 1) := by decide +kernel
theorem dX9_init_180 : decode cX9_init 180 = .ok (.iconst 5, 1) := by decide +kernel
theorem dX9_init_181 : decode cX9_init 181 = .ok (.newarray .int, 2) := by decide +kernel
theorem dX9_init_183 : decode cX9_init 183 = .ok (.putfield 76, 3) := by decide +kernel
theorem dX9_init_186 : decode cX9_init 186 = .ok (.aload_n 0, 1) := by decide +kernel
theorem dX9_init_187 : decode cX9_init 187 = .ok (.iconst 5, 1) := by decide +kernel
theorem dX9_init_188 : decode cX9_init 188 = .ok (.newarray .int, 2) := by decide +kernel
theorem dX9_init_190 : decode cX9_init 190 = .ok (.putfield 79, 3) := by decide +kernel
theorem dX9_init_193 : decode cX9_init 193 = .ok (.aload_n 0, 1) := by decide +kernel
theorem dX9_init_194 : decode cX9_init 194 = .ok (.getfield 13, 3) := by decide +kernel
theorem dX9_init_197 : decode cX9_init 197 = .ok (.iconst 5, 1) := by decide +kernel
theorem dX9_init_198 : decode cX9_init 198 = .ok (.bipush 30, 2) := by decide +kernel
theorem dX9_init_200 : decode cX9_init 200 = .ok (.iastore, 1) := by decide +kernel
theorem dX9_init_201 : decode cX9_init 201 = .ok (.aload_n 0, 1) := by decide +kernel
theorem dX9_init_202 : decode cX9_init 202 = .ok (.getfield 13, 3) := by decide +kernel
theorem dX9_init_205 : decode cX9_init 205 = .ok (.bipush 7, 2) := by decide +kernel
theorem dX9_init_207 : decode cX9_init 207 = .ok (.bipush 40, 2) := by decide +kernel
theorem dX9_init_209 : decode cX9_init 209 = .ok (.iastore, 1) := by decide +kernel
theorem dX9_init_210 : decode cX9_init 210 = .ok (.return_, 1) := by decide +kernel
theorem n_norm {p : Program} {l : Launch} {e : Env} {R : Room} {s : State} {m : MethodId} {args : Array Value} {below : List Frame} {meth : Method} {c : Code} {Q : State → Prop} {A : Nat → Prop} {X : m_X} {cells slots : Nat} {ws ws2 : va_W} {pc : Nat} {lsA : Array Slot} {stk : List Value} (h : ws = ws2) (kk : n_J p l e R s m args below meth c Q A X cells slots ws2 pc lsA stk) : n_J p l e R s m args below meth c Q A X cells slots ws pc lsA stk := h ▸ kk
theorem n_vret {p : Program} {l : Launch} {e : Env} {R : Room} {s : State} {m : MethodId} {args : Array Value} {below : List Frame} {meth : Method} {c : Code} {A : Nat → Prop} {X : m_X} {mc ms h0 : Nat} {ws : va_W} {pc : Nat} {lsA : Array Slot} {cc : ByteArray} {nL : Nat} {own : String} {V : (Nat → Nat) → va_W} (C : n_Cx p s m args c A X cc nL own) (hr : meth.sig.returnType = none) (hd : decode cc pc = .ok (.return_, 1)) (u : Nat → Nat) (hu : u 0 = h0) (is : List Nat) (h1 : is.filterMap (fun i => ws[i]?) = V u) (h2 : is.map (fun i => ws[i]?) = (V u).map some) (hn : va_nd is = true) (hlk : meth.locks = false) :
    n_J p l e R s m args below meth c (MQ below (va_Qv (fun u : Nat → Nat => u 0 = h0) (fun u t => va_P X.2.1 vwCl (V u) t.heap ∧ va_D A (V u)) A) args s mc ms A) A X mc ms ws pc lsA [] := fun H locs hP hD hS =>
  W.vret C.1 C.2.1 hr (fun t ht hW => ⟨⟨u, rfl, hu, by rw [ht]; exact hP.sub is h1, hD.sub is hn h2⟩, hS.F ht⟩) hS.2.2 hd hlk
/-- the settings, k of them copied -/
def n_fill (k : Nat) (j : Nat) : Int32 := if j < k then Int32.ofInt (m_tb 402 j) else 0
theorem n_fill_s (k : Nat) : upd (n_fill k) k (Int32.ofInt (m_tb 402 k)) = n_fill (k + 1) := by
  funext j
  unfold upd n_fill
  by_cases h : j = k
  · subst h; rw [if_pos rfl, if_pos (by omega)]
  · rw [if_neg h]
    by_cases h2 : j < k
    · rw [if_pos h2, if_pos (by omega)]
    · rw [if_neg h2, if_neg (by omega)]
theorem n_fill_1 : upd (fun _ => 0) 0 (Int32.ofInt (m_tb 402 0)) = n_fill 1 := by
  funext j
  unfold upd n_fill
  by_cases h : j = 0
  · subst h; rw [if_pos rfl, if_pos (by omega)]
  · rw [if_neg h, if_neg (by omega)]
/-- the first lines of an array of Lines -/
def n_ls (as : List Nat) (j : Nat) : Option Nat := as[j]?
theorem n_ls_s (as : List Nat) (v : Nat) : va_up (n_ls as) as.length (some v) = n_ls (as ++ [v]) := by
  funext j
  unfold va_up n_ls
  by_cases h : j = as.length
  · subst h; simp
  · rw [if_neg h]
    by_cases h2 : j < as.length
    · rw [List.getElem?_append_left h2]
    · rw [List.getElem?_eq_none (by omega), List.getElem?_eq_none (by simp; omega)]
def V_3 (X : m_X) (u : Nat → Nat) : va_W := [(u 0, .inr (3, [.int 0, .int 0, .int 0, .int 0, .int 0, .int 0, .int (-1), .int (-1), .int 0, .int 0, .int 0, .int (-1)]))]
set_option maxHeartbeats 4000000 in
set_option maxRecDepth 100000 in
theorem iX3 (l : Launch) (X : m_X) : n_Init l X 1 0 0 yX3_init cX3_init 1 3 [.int 0, .int 0, .int 0, .int 0, .int 0, .int 0, .int 0, .int 0, .int 0, .int 0, .int 0, .int 0] (V_3 X) := by
  intro h0 sz
  refine Met.ofW (cc := cX3_init) (maxL := 1) (ret := none) (by decide) rfl ?_
  intro p e s m args below meth c s₁ B hml hv
  obtain ⟨rfl, hsz, hP, hK, hD0, hE, hO⟩ := hv
  have hts := atoms_spec (ws := .code yX3_init cX3_init 1 none :: m_tblG) B.pre
  have hown : s.vm.findClass "WhichLane$Line" = some m.cls := findClass_of_methodNamed B.named
  have hin : meth.name = "<init>" := (name_of_methodNamed B.named B.method).1
  have hr := B.returns
  have hlk := B.notSynchronized
  subst hsz
  have hD := hD0.self (sz := s.heap.size)
  have C : n_Cx p s m (([.ref h0] : List Value)).toArray c (va_A [(h0, .inr (3, [.int 0, .int 0, .int 0, .int 0, .int 0, .int 0, .int 0, .int 0, .int 0, .int 0, .int 0, .int 0]))] s.heap.size) X cX3_init 1 "WhichLane$Line" := ⟨B.exec, B.bytes, hml, hown, fun w hw => hts w (List.mem_cons_of_mem _ hw), hK, hE, hO, fun q h => Or.inr h⟩
  have hl := lv_entry ([.ref h0]) (n := 1) (Nat.le_of_ble_eq_true rfl)
  rw [lg_entry_eq]
  generalize (lg_sl ([.ref h0]) ++ List.replicate (1 - (lg_sl ([.ref h0])).length) Slot.unset).toArray = lsA at hl ⊢
  have hl : lv_has lsA 1 [(0, .ref h0)] := hl
  refine (?_ : n_J p l e _ s m _ below meth c _ _ X 0 0 [(h0, .inr (3, [.int 0, .int 0, .int 0, .int 0, .int 0, .int 0, .int 0, .int 0, .int 0, .int 0, .int 0, .int 0]))] 0 lsA []) s.heap [] hP hD va_S.rf
  refine n_aload C (i := 0) dX3_init_0 rfl (lv_at hl 0 rfl) ?_
  refine n_obj C hl.1 (m_tb_of 188 (by decide +kernel) rfl) (m_tb_of 95 (by decide +kernel) rfl) (m_tb_of 96 (by decide +kernel) rfl) dX3_init_1 ⟨Nat.le_of_ble_eq_true rfl, Nat.le_of_ble_eq_true rfl⟩ ?_
  refine n_aload C (i := 0) dX3_init_4 rfl (lv_at hl 0 rfl) ?_
  refine n_iconst C (v := (-1)) dX3_init_5 rfl ?_
  refine n_put C (rf := RX3) (T := TX3) (N := 12) (v := .int (-1)) 0 rfl rfl ginX3 6 (by decide) (m_tb_of 201 (by decide +kernel) rfl) (ty0 := tyX3) tyX3_ok nmX3 (Or.inl rfl) rfl rfl (Nat.le_of_ble_eq_true rfl) dX3_init_6 ?_
  refine n_norm (ws2 := [(h0, .inr (3, [.int 0, .int 0, .int 0, .int 0, .int 0, .int 0, .int (-1), .int 0, .int 0, .int 0, .int 0, .int 0]))]) rfl ?_
  refine n_aload C (i := 0) dX3_init_9 rfl (lv_at hl 0 rfl) ?_
  refine n_iconst C (v := (-1)) dX3_init_10 rfl ?_
  refine n_put C (rf := RX3) (T := TX3) (N := 12) (v := .int (-1)) 0 rfl rfl ginX3 7 (by decide) (m_tb_of 203 (by decide +kernel) rfl) (ty0 := tyX3) tyX3_ok nmX3 (Or.inl rfl) rfl rfl (Nat.le_of_ble_eq_true rfl) dX3_init_11 ?_
  refine n_norm (ws2 := [(h0, .inr (3, [.int 0, .int 0, .int 0, .int 0, .int 0, .int 0, .int (-1), .int (-1), .int 0, .int 0, .int 0, .int 0]))]) rfl ?_
  refine n_aload C (i := 0) dX3_init_14 rfl (lv_at hl 0 rfl) ?_
  refine n_iconst C (v := (-1)) dX3_init_15 rfl ?_
  refine n_put C (rf := RX3) (T := TX3) (N := 12) (v := .int (-1)) 0 rfl rfl ginX3 11 (by decide) (m_tb_of 211 (by decide +kernel) rfl) (ty0 := tyX3) tyX3_ok nmX3 (Or.inl rfl) rfl rfl (Nat.le_of_ble_eq_true rfl) dX3_init_16 ?_
  refine n_norm (ws2 := [(h0, .inr (3, [.int 0, .int 0, .int 0, .int 0, .int 0, .int 0, .int (-1), .int (-1), .int 0, .int 0, .int 0, .int (-1)]))]) rfl ?_
  exact n_vret (V := V_3 X) C hr dX3_init_19 (fun i => ([h0] : List Nat).getD i 0) rfl [0] rfl rfl (by decide) hlk
def V_2 (X : m_X) (u : Nat → Nat) : va_W := [(u 0, .inr (2, [.int 0, .int 0, .ref (u 1), .ref (u 2), .ref (u 3), .ref (u 4), .ref (u 5), .ref (u 6)])), (u 1, .inl (X.2.2.1, 5, .inl (fun _ => 0))), (u 2, .inl (X.2.2.1, 5, .inl (fun _ => 0))), (u 3, .inl (X.2.2.1, 20, .inl (fun _ => 0))), (u 4, .inl (X.2.2.1, 20, .inl (fun _ => 0))), (u 5, .inl (X.2.2.1, 24, .inl (fun _ => 0))), (u 6, .inl (X.2.2.1, 8, .inl (n_fill 8)))]
set_option maxHeartbeats 4000000 in
set_option maxRecDepth 100000 in
theorem iX2 (l : Launch) (X : m_X) : n_Init l X 1 6 82 yX2_init cX2_init 2 2 [.int 0, .int 0, .null, .null, .null, .null, .null, .null] (V_2 X) := by
  intro h0 sz
  refine Met.ofW (cc := cX2_init) (maxL := 2) (ret := none) (by decide) rfl ?_
  intro p e s m args below meth c s₁ B hml hv
  obtain ⟨rfl, hsz, hP, hK, hD0, hE, hO⟩ := hv
  have hts := atoms_spec (ws := .code yX2_init cX2_init 2 none :: m_tblG) B.pre
  have hown : s.vm.findClass "WhichLane$House" = some m.cls := findClass_of_methodNamed B.named
  have hin : meth.name = "<init>" := (name_of_methodNamed B.named B.method).1
  have hr := B.returns
  have hlk := B.notSynchronized
  subst hsz
  have hD := hD0.self (sz := s.heap.size)
  have C : n_Cx p s m (([.ref h0] : List Value)).toArray c (va_A [(h0, .inr (2, [.int 0, .int 0, .null, .null, .null, .null, .null, .null]))] s.heap.size) X cX2_init 2 "WhichLane$House" := ⟨B.exec, B.bytes, hml, hown, fun w hw => hts w (List.mem_cons_of_mem _ hw), hK, hE, hO, fun q h => Or.inr h⟩
  have hl := lv_entry ([.ref h0]) (n := 2) (Nat.le_of_ble_eq_true rfl)
  rw [lg_entry_eq]
  generalize (lg_sl ([.ref h0]) ++ List.replicate (2 - (lg_sl ([.ref h0])).length) Slot.unset).toArray = lsA at hl ⊢
  have hl : lv_has lsA 2 [(0, .ref h0)] := hl
  refine (?_ : n_J p l e _ s m _ below meth c _ _ X 0 0 [(h0, .inr (2, [.int 0, .int 0, .null, .null, .null, .null, .null, .null]))] 0 lsA []) s.heap [] hP hD va_S.rf
  refine n_aload C (i := 0) dX2_init_0 rfl (lv_at hl 0 rfl) ?_
  refine n_obj C hl.1 (m_tb_of 102 (by decide +kernel) rfl) (m_tb_of 95 (by decide +kernel) rfl) (m_tb_of 96 (by decide +kernel) rfl) dX2_init_1 ⟨Nat.le_of_ble_eq_true rfl, Nat.le_of_ble_eq_true rfl⟩ ?_
  refine n_aload C (i := 0) dX2_init_4 rfl (lv_at hl 0 rfl) ?_
  refine n_iconst C (v := 0) dX2_init_5 rfl ?_
  refine n_put C (rf := RX2) (T := TX2) (N := 8) (v := .int 0) 0 rfl rfl ginX2 0 (by decide) (m_tb_of 105 (by decide +kernel) rfl) (ty0 := tyX2) tyX2_ok nmX2 (Or.inl rfl) rfl rfl (Nat.le_of_ble_eq_true rfl) dX2_init_6 ?_
  refine n_norm (ws2 := [(h0, .inr (2, [.int 0, .int 0, .null, .null, .null, .null, .null, .null]))]) rfl ?_
  refine n_aload C (i := 0) dX2_init_9 rfl (lv_at hl 0 rfl) ?_
  refine n_iconst C (v := 0) dX2_init_10 rfl ?_
  refine n_put C (rf := RX2) (T := TX2) (N := 8) (v := .int 0) 0 rfl rfl ginX2 1 (by decide) (m_tb_of 110 (by decide +kernel) rfl) (ty0 := tyX2) tyX2_ok nmX2 (Or.inl rfl) rfl rfl (Nat.le_of_ble_eq_true rfl) dX2_init_11 ?_
  refine n_norm (ws2 := [(h0, .inr (2, [.int 0, .int 0, .null, .null, .null, .null, .null, .null]))]) rfl ?_
  refine n_aload C (i := 0) dX2_init_14 rfl (lv_at hl 0 rfl) ?_
  refine n_iconst C (v := 5) dX2_init_15 rfl ?_
  refine n_newI C (m_tb_of 147 (by decide +kernel) rfl) 5 (by decide) (by decide) (by decide) (Nat.le_of_ble_eq_true rfl) (Nat.le_of_ble_eq_true rfl) dX2_init_16 (fun q1 => ?_)
  refine n_norm (ws2 := [(h0, .inr (2, [.int 0, .int 0, .null, .null, .null, .null, .null, .null])), (q1, .inl (X.2.2.1, 5, .inl (fun _ => 0)))]) rfl ?_
  refine n_put C (rf := RX2) (T := TX2) (N := 8) (v := .ref q1) 0 rfl rfl ginX2 2 (by decide) (m_tb_of 116 (by decide +kernel) rfl) (ty0 := tyX2) tyX2_ok nmX2 (Or.inr ⟨rfl, hin, rfl⟩) rfl rfl (Nat.le_of_ble_eq_true rfl) dX2_init_18 ?_
  refine n_norm (ws2 := [(h0, .inr (2, [.int 0, .int 0, .ref q1, .null, .null, .null, .null, .null])), (q1, .inl (X.2.2.1, 5, .inl (fun _ => 0)))]) rfl ?_
  refine n_aload C (i := 0) dX2_init_21 rfl (lv_at hl 0 rfl) ?_
  refine n_iconst C (v := 5) dX2_init_22 rfl ?_
  refine n_newI C (m_tb_of 147 (by decide +kernel) rfl) 5 (by decide) (by decide) (by decide) (Nat.le_of_ble_eq_true rfl) (Nat.le_of_ble_eq_true rfl) dX2_init_23 (fun q2 => ?_)
  refine n_norm (ws2 := [(h0, .inr (2, [.int 0, .int 0, .ref q1, .null, .null, .null, .null, .null])), (q1, .inl (X.2.2.1, 5, .inl (fun _ => 0))), (q2, .inl (X.2.2.1, 5, .inl (fun _ => 0)))]) rfl ?_
  refine n_put C (rf := RX2) (T := TX2) (N := 8) (v := .ref q2) 0 rfl rfl ginX2 3 (by decide) (m_tb_of 119 (by decide +kernel) rfl) (ty0 := tyX2) tyX2_ok nmX2 (Or.inr ⟨rfl, hin, rfl⟩) rfl rfl (Nat.le_of_ble_eq_true rfl) dX2_init_25 ?_
  refine n_norm (ws2 := [(h0, .inr (2, [.int 0, .int 0, .ref q1, .ref q2, .null, .null, .null, .null])), (q1, .inl (X.2.2.1, 5, .inl (fun _ => 0))), (q2, .inl (X.2.2.1, 5, .inl (fun _ => 0)))]) rfl ?_
  refine n_aload C (i := 0) dX2_init_28 rfl (lv_at hl 0 rfl) ?_
  refine n_bipush C (v := 20) dX2_init_29 rfl ?_
  refine n_newI C (m_tb_of 147 (by decide +kernel) rfl) 20 (by decide) (by decide) (by decide) (Nat.le_of_ble_eq_true rfl) (Nat.le_of_ble_eq_true rfl) dX2_init_31 (fun q3 => ?_)
  refine n_norm (ws2 := [(h0, .inr (2, [.int 0, .int 0, .ref q1, .ref q2, .null, .null, .null, .null])), (q1, .inl (X.2.2.1, 5, .inl (fun _ => 0))), (q2, .inl (X.2.2.1, 5, .inl (fun _ => 0))), (q3, .inl (X.2.2.1, 20, .inl (fun _ => 0)))]) rfl ?_
  refine n_put C (rf := RX2) (T := TX2) (N := 8) (v := .ref q3) 0 rfl rfl ginX2 4 (by decide) (m_tb_of 122 (by decide +kernel) rfl) (ty0 := tyX2) tyX2_ok nmX2 (Or.inr ⟨rfl, hin, rfl⟩) rfl rfl (Nat.le_of_ble_eq_true rfl) dX2_init_33 ?_
  refine n_norm (ws2 := [(h0, .inr (2, [.int 0, .int 0, .ref q1, .ref q2, .ref q3, .null, .null, .null])), (q1, .inl (X.2.2.1, 5, .inl (fun _ => 0))), (q2, .inl (X.2.2.1, 5, .inl (fun _ => 0))), (q3, .inl (X.2.2.1, 20, .inl (fun _ => 0)))]) rfl ?_
  refine n_aload C (i := 0) dX2_init_36 rfl (lv_at hl 0 rfl) ?_
  refine n_bipush C (v := 20) dX2_init_37 rfl ?_
  refine n_newI C (m_tb_of 147 (by decide +kernel) rfl) 20 (by decide) (by decide) (by decide) (Nat.le_of_ble_eq_true rfl) (Nat.le_of_ble_eq_true rfl) dX2_init_39 (fun q4 => ?_)
  refine n_norm (ws2 := [(h0, .inr (2, [.int 0, .int 0, .ref q1, .ref q2, .ref q3, .null, .null, .null])), (q1, .inl (X.2.2.1, 5, .inl (fun _ => 0))), (q2, .inl (X.2.2.1, 5, .inl (fun _ => 0))), (q3, .inl (X.2.2.1, 20, .inl (fun _ => 0))), (q4, .inl (X.2.2.1, 20, .inl (fun _ => 0)))]) rfl ?_
  refine n_put C (rf := RX2) (T := TX2) (N := 8) (v := .ref q4) 0 rfl rfl ginX2 5 (by decide) (m_tb_of 124 (by decide +kernel) rfl) (ty0 := tyX2) tyX2_ok nmX2 (Or.inr ⟨rfl, hin, rfl⟩) rfl rfl (Nat.le_of_ble_eq_true rfl) dX2_init_41 ?_
  refine n_norm (ws2 := [(h0, .inr (2, [.int 0, .int 0, .ref q1, .ref q2, .ref q3, .ref q4, .null, .null])), (q1, .inl (X.2.2.1, 5, .inl (fun _ => 0))), (q2, .inl (X.2.2.1, 5, .inl (fun _ => 0))), (q3, .inl (X.2.2.1, 20, .inl (fun _ => 0))), (q4, .inl (X.2.2.1, 20, .inl (fun _ => 0)))]) rfl ?_
  refine n_aload C (i := 0) dX2_init_44 rfl (lv_at hl 0 rfl) ?_
  refine n_bipush C (v := 24) dX2_init_45 rfl ?_
  refine n_newI C (m_tb_of 147 (by decide +kernel) rfl) 24 (by decide) (by decide) (by decide) (Nat.le_of_ble_eq_true rfl) (Nat.le_of_ble_eq_true rfl) dX2_init_47 (fun q5 => ?_)
  refine n_norm (ws2 := [(h0, .inr (2, [.int 0, .int 0, .ref q1, .ref q2, .ref q3, .ref q4, .null, .null])), (q1, .inl (X.2.2.1, 5, .inl (fun _ => 0))), (q2, .inl (X.2.2.1, 5, .inl (fun _ => 0))), (q3, .inl (X.2.2.1, 20, .inl (fun _ => 0))), (q4, .inl (X.2.2.1, 20, .inl (fun _ => 0))), (q5, .inl (X.2.2.1, 24, .inl (fun _ => 0)))]) rfl ?_
  refine n_put C (rf := RX2) (T := TX2) (N := 8) (v := .ref q5) 0 rfl rfl ginX2 6 (by decide) (m_tb_of 125 (by decide +kernel) rfl) (ty0 := tyX2) tyX2_ok nmX2 (Or.inr ⟨rfl, hin, rfl⟩) rfl rfl (Nat.le_of_ble_eq_true rfl) dX2_init_49 ?_
  refine n_norm (ws2 := [(h0, .inr (2, [.int 0, .int 0, .ref q1, .ref q2, .ref q3, .ref q4, .ref q5, .null])), (q1, .inl (X.2.2.1, 5, .inl (fun _ => 0))), (q2, .inl (X.2.2.1, 5, .inl (fun _ => 0))), (q3, .inl (X.2.2.1, 20, .inl (fun _ => 0))), (q4, .inl (X.2.2.1, 20, .inl (fun _ => 0))), (q5, .inl (X.2.2.1, 24, .inl (fun _ => 0)))]) rfl ?_
  refine n_aload C (i := 0) dX2_init_52 rfl (lv_at hl 0 rfl) ?_
  refine n_bipush C (v := 8) dX2_init_53 rfl ?_
  refine n_newI C (m_tb_of 147 (by decide +kernel) rfl) 8 (by decide) (by decide) (by decide) (Nat.le_of_ble_eq_true rfl) (Nat.le_of_ble_eq_true rfl) dX2_init_55 (fun q6 => ?_)
  refine n_norm (ws2 := [(h0, .inr (2, [.int 0, .int 0, .ref q1, .ref q2, .ref q3, .ref q4, .ref q5, .null])), (q1, .inl (X.2.2.1, 5, .inl (fun _ => 0))), (q2, .inl (X.2.2.1, 5, .inl (fun _ => 0))), (q3, .inl (X.2.2.1, 20, .inl (fun _ => 0))), (q4, .inl (X.2.2.1, 20, .inl (fun _ => 0))), (q5, .inl (X.2.2.1, 24, .inl (fun _ => 0))), (q6, .inl (X.2.2.1, 8, .inl (fun _ => 0)))]) rfl ?_
  refine n_put C (rf := RX2) (T := TX2) (N := 8) (v := .ref q6) 0 rfl rfl ginX2 7 (by decide) (m_tb_of 126 (by decide +kernel) rfl) (ty0 := tyX2) tyX2_ok nmX2 (Or.inr ⟨rfl, hin, rfl⟩) rfl rfl (Nat.le_of_ble_eq_true rfl) dX2_init_57 ?_
  refine n_norm (ws2 := [(h0, .inr (2, [.int 0, .int 0, .ref q1, .ref q2, .ref q3, .ref q4, .ref q5, .ref q6])), (q1, .inl (X.2.2.1, 5, .inl (fun _ => 0))), (q2, .inl (X.2.2.1, 5, .inl (fun _ => 0))), (q3, .inl (X.2.2.1, 20, .inl (fun _ => 0))), (q4, .inl (X.2.2.1, 20, .inl (fun _ => 0))), (q5, .inl (X.2.2.1, 24, .inl (fun _ => 0))), (q6, .inl (X.2.2.1, 8, .inl (fun _ => 0)))]) rfl ?_
  refine n_iconst C (v := 0) dX2_init_60 rfl ?_
  refine n_istore C (i := 1) (lv' := [(1, .int 0), (0, .ref h0)]) dX2_init_61 rfl hl (by decide) rfl (fun lsA hl => ?_)
  refine n_iload C (i := 1) dX2_init_62 rfl (lv_at hl 0 rfl) ?_
  refine n_bipush C (v := 8) dX2_init_63 rfl ?_
  refine n_ge_no C (t := 85) dX2_init_65 rfl (by decide) ?_
  refine n_aload C (i := 0) dX2_init_68 rfl (lv_at hl 1 rfl) ?_
  refine n_get C (rf := RX2) (T := TX2) (N := 8) 0 rfl rfl ginX2 7 (by decide) (m_tb_of 126 (by decide +kernel) rfl) rfl dX2_init_69 ?_
  refine n_iload C (i := 1) dX2_init_72 rfl (lv_at hl 0 rfl) ?_
  refine n_gets C rfl dX2_init_73 ?_
  refine n_iload C (i := 1) dX2_init_76 rfl (lv_at hl 0 rfl) ?_
  refine n_tld C (by unfold vp_in; decide) dX2_init_77 ?_
  refine n_iast C 6 rfl (by unfold vp_in; decide) dX2_init_78 ?_
  refine n_norm (ws2 := [(h0, .inr (2, [.int 0, .int 0, .ref q1, .ref q2, .ref q3, .ref q4, .ref q5, .ref q6])), (q1, .inl (X.2.2.1, 5, .inl (fun _ => 0))), (q2, .inl (X.2.2.1, 5, .inl (fun _ => 0))), (q3, .inl (X.2.2.1, 20, .inl (fun _ => 0))), (q4, .inl (X.2.2.1, 20, .inl (fun _ => 0))), (q5, .inl (X.2.2.1, 24, .inl (fun _ => 0))), (q6, .inl (X.2.2.1, 8, .inl (n_fill 1)))]) (by rw [← n_fill_1]; rfl) ?_
  refine n_iinc C (v := 1) (lv' := [(1, .int 1), (0, .ref h0)]) dX2_init_79 hl (k := 0) rfl rfl (by decide) rfl (fun lsA hl => ?_)
  refine n_goto C (t := 62) dX2_init_82 rfl ?_
  refine n_iload C (i := 1) dX2_init_62 rfl (lv_at hl 0 rfl) ?_
  refine n_bipush C (v := 8) dX2_init_63 rfl ?_
  refine n_ge_no C (t := 85) dX2_init_65 rfl (by decide) ?_
  refine n_aload C (i := 0) dX2_init_68 rfl (lv_at hl 1 rfl) ?_
  refine n_get C (rf := RX2) (T := TX2) (N := 8) 0 rfl rfl ginX2 7 (by decide) (m_tb_of 126 (by decide +kernel) rfl) rfl dX2_init_69 ?_
  refine n_iload C (i := 1) dX2_init_72 rfl (lv_at hl 0 rfl) ?_
  refine n_gets C rfl dX2_init_73 ?_
  refine n_iload C (i := 1) dX2_init_76 rfl (lv_at hl 0 rfl) ?_
  refine n_tld C (by unfold vp_in; decide) dX2_init_77 ?_
  refine n_iast C 6 rfl (by unfold vp_in; decide) dX2_init_78 ?_
  refine n_norm (ws2 := [(h0, .inr (2, [.int 0, .int 0, .ref q1, .ref q2, .ref q3, .ref q4, .ref q5, .ref q6])), (q1, .inl (X.2.2.1, 5, .inl (fun _ => 0))), (q2, .inl (X.2.2.1, 5, .inl (fun _ => 0))), (q3, .inl (X.2.2.1, 20, .inl (fun _ => 0))), (q4, .inl (X.2.2.1, 20, .inl (fun _ => 0))), (q5, .inl (X.2.2.1, 24, .inl (fun _ => 0))), (q6, .inl (X.2.2.1, 8, .inl (n_fill 2)))]) (by rw [← n_fill_s 1]; rfl) ?_
  refine n_iinc C (v := 2) (lv' := [(1, .int 2), (0, .ref h0)]) dX2_init_79 hl (k := 0) rfl rfl (by decide) rfl (fun lsA hl => ?_)
  refine n_goto C (t := 62) dX2_init_82 rfl ?_
  refine n_iload C (i := 1) dX2_init_62 rfl (lv_at hl 0 rfl) ?_
  refine n_bipush C (v := 8) dX2_init_63 rfl ?_
  refine n_ge_no C (t := 85) dX2_init_65 rfl (by decide) ?_
  refine n_aload C (i := 0) dX2_init_68 rfl (lv_at hl 1 rfl) ?_
  refine n_get C (rf := RX2) (T := TX2) (N := 8) 0 rfl rfl ginX2 7 (by decide) (m_tb_of 126 (by decide +kernel) rfl) rfl dX2_init_69 ?_
  refine n_iload C (i := 1) dX2_init_72 rfl (lv_at hl 0 rfl) ?_
  refine n_gets C rfl dX2_init_73 ?_
  refine n_iload C (i := 1) dX2_init_76 rfl (lv_at hl 0 rfl) ?_
  refine n_tld C (by unfold vp_in; decide) dX2_init_77 ?_
  refine n_iast C 6 rfl (by unfold vp_in; decide) dX2_init_78 ?_
  refine n_norm (ws2 := [(h0, .inr (2, [.int 0, .int 0, .ref q1, .ref q2, .ref q3, .ref q4, .ref q5, .ref q6])), (q1, .inl (X.2.2.1, 5, .inl (fun _ => 0))), (q2, .inl (X.2.2.1, 5, .inl (fun _ => 0))), (q3, .inl (X.2.2.1, 20, .inl (fun _ => 0))), (q4, .inl (X.2.2.1, 20, .inl (fun _ => 0))), (q5, .inl (X.2.2.1, 24, .inl (fun _ => 0))), (q6, .inl (X.2.2.1, 8, .inl (n_fill 3)))]) (by rw [← n_fill_s 2]; rfl) ?_
  refine n_iinc C (v := 3) (lv' := [(1, .int 3), (0, .ref h0)]) dX2_init_79 hl (k := 0) rfl rfl (by decide) rfl (fun lsA hl => ?_)
  refine n_goto C (t := 62) dX2_init_82 rfl ?_
  refine n_iload C (i := 1) dX2_init_62 rfl (lv_at hl 0 rfl) ?_
  refine n_bipush C (v := 8) dX2_init_63 rfl ?_
  refine n_ge_no C (t := 85) dX2_init_65 rfl (by decide) ?_
  refine n_aload C (i := 0) dX2_init_68 rfl (lv_at hl 1 rfl) ?_
  refine n_get C (rf := RX2) (T := TX2) (N := 8) 0 rfl rfl ginX2 7 (by decide) (m_tb_of 126 (by decide +kernel) rfl) rfl dX2_init_69 ?_
  refine n_iload C (i := 1) dX2_init_72 rfl (lv_at hl 0 rfl) ?_
  refine n_gets C rfl dX2_init_73 ?_
  refine n_iload C (i := 1) dX2_init_76 rfl (lv_at hl 0 rfl) ?_
  refine n_tld C (by unfold vp_in; decide) dX2_init_77 ?_
  refine n_iast C 6 rfl (by unfold vp_in; decide) dX2_init_78 ?_
  refine n_norm (ws2 := [(h0, .inr (2, [.int 0, .int 0, .ref q1, .ref q2, .ref q3, .ref q4, .ref q5, .ref q6])), (q1, .inl (X.2.2.1, 5, .inl (fun _ => 0))), (q2, .inl (X.2.2.1, 5, .inl (fun _ => 0))), (q3, .inl (X.2.2.1, 20, .inl (fun _ => 0))), (q4, .inl (X.2.2.1, 20, .inl (fun _ => 0))), (q5, .inl (X.2.2.1, 24, .inl (fun _ => 0))), (q6, .inl (X.2.2.1, 8, .inl (n_fill 4)))]) (by rw [← n_fill_s 3]; rfl) ?_
  refine n_iinc C (v := 4) (lv' := [(1, .int 4), (0, .ref h0)]) dX2_init_79 hl (k := 0) rfl rfl (by decide) rfl (fun lsA hl => ?_)
  refine n_goto C (t := 62) dX2_init_82 rfl ?_
  refine n_iload C (i := 1) dX2_init_62 rfl (lv_at hl 0 rfl) ?_
  refine n_bipush C (v := 8) dX2_init_63 rfl ?_
  refine n_ge_no C (t := 85) dX2_init_65 rfl (by decide) ?_
  refine n_aload C (i := 0) dX2_init_68 rfl (lv_at hl 1 rfl) ?_
  refine n_get C (rf := RX2) (T := TX2) (N := 8) 0 rfl rfl ginX2 7 (by decide) (m_tb_of 126 (by decide +kernel) rfl) rfl dX2_init_69 ?_
  refine n_iload C (i := 1) dX2_init_72 rfl (lv_at hl 0 rfl) ?_
  refine n_gets C rfl dX2_init_73 ?_
  refine n_iload C (i := 1) dX2_init_76 rfl (lv_at hl 0 rfl) ?_
  refine n_tld C (by unfold vp_in; decide) dX2_init_77 ?_
  refine n_iast C 6 rfl (by unfold vp_in; decide) dX2_init_78 ?_
  refine n_norm (ws2 := [(h0, .inr (2, [.int 0, .int 0, .ref q1, .ref q2, .ref q3, .ref q4, .ref q5, .ref q6])), (q1, .inl (X.2.2.1, 5, .inl (fun _ => 0))), (q2, .inl (X.2.2.1, 5, .inl (fun _ => 0))), (q3, .inl (X.2.2.1, 20, .inl (fun _ => 0))), (q4, .inl (X.2.2.1, 20, .inl (fun _ => 0))), (q5, .inl (X.2.2.1, 24, .inl (fun _ => 0))), (q6, .inl (X.2.2.1, 8, .inl (n_fill 5)))]) (by rw [← n_fill_s 4]; rfl) ?_
  refine n_iinc C (v := 5) (lv' := [(1, .int 5), (0, .ref h0)]) dX2_init_79 hl (k := 0) rfl rfl (by decide) rfl (fun lsA hl => ?_)
  refine n_goto C (t := 62) dX2_init_82 rfl ?_
  refine n_iload C (i := 1) dX2_init_62 rfl (lv_at hl 0 rfl) ?_
  refine n_bipush C (v := 8) dX2_init_63 rfl ?_
  refine n_ge_no C (t := 85) dX2_init_65 rfl (by decide) ?_
  refine n_aload C (i := 0) dX2_init_68 rfl (lv_at hl 1 rfl) ?_
  refine n_get C (rf := RX2) (T := TX2) (N := 8) 0 rfl rfl ginX2 7 (by decide) (m_tb_of 126 (by decide +kernel) rfl) rfl dX2_init_69 ?_
  refine n_iload C (i := 1) dX2_init_72 rfl (lv_at hl 0 rfl) ?_
  refine n_gets C rfl dX2_init_73 ?_
  refine n_iload C (i := 1) dX2_init_76 rfl (lv_at hl 0 rfl) ?_
  refine n_tld C (by unfold vp_in; decide) dX2_init_77 ?_
  refine n_iast C 6 rfl (by unfold vp_in; decide) dX2_init_78 ?_
  refine n_norm (ws2 := [(h0, .inr (2, [.int 0, .int 0, .ref q1, .ref q2, .ref q3, .ref q4, .ref q5, .ref q6])), (q1, .inl (X.2.2.1, 5, .inl (fun _ => 0))), (q2, .inl (X.2.2.1, 5, .inl (fun _ => 0))), (q3, .inl (X.2.2.1, 20, .inl (fun _ => 0))), (q4, .inl (X.2.2.1, 20, .inl (fun _ => 0))), (q5, .inl (X.2.2.1, 24, .inl (fun _ => 0))), (q6, .inl (X.2.2.1, 8, .inl (n_fill 6)))]) (by rw [← n_fill_s 5]; rfl) ?_
  refine n_iinc C (v := 6) (lv' := [(1, .int 6), (0, .ref h0)]) dX2_init_79 hl (k := 0) rfl rfl (by decide) rfl (fun lsA hl => ?_)
  refine n_goto C (t := 62) dX2_init_82 rfl ?_
  refine n_iload C (i := 1) dX2_init_62 rfl (lv_at hl 0 rfl) ?_
  refine n_bipush C (v := 8) dX2_init_63 rfl ?_
  refine n_ge_no C (t := 85) dX2_init_65 rfl (by decide) ?_
  refine n_aload C (i := 0) dX2_init_68 rfl (lv_at hl 1 rfl) ?_
  refine n_get C (rf := RX2) (T := TX2) (N := 8) 0 rfl rfl ginX2 7 (by decide) (m_tb_of 126 (by decide +kernel) rfl) rfl dX2_init_69 ?_
  refine n_iload C (i := 1) dX2_init_72 rfl (lv_at hl 0 rfl) ?_
  refine n_gets C rfl dX2_init_73 ?_
  refine n_iload C (i := 1) dX2_init_76 rfl (lv_at hl 0 rfl) ?_
  refine n_tld C (by unfold vp_in; decide) dX2_init_77 ?_
  refine n_iast C 6 rfl (by unfold vp_in; decide) dX2_init_78 ?_
  refine n_norm (ws2 := [(h0, .inr (2, [.int 0, .int 0, .ref q1, .ref q2, .ref q3, .ref q4, .ref q5, .ref q6])), (q1, .inl (X.2.2.1, 5, .inl (fun _ => 0))), (q2, .inl (X.2.2.1, 5, .inl (fun _ => 0))), (q3, .inl (X.2.2.1, 20, .inl (fun _ => 0))), (q4, .inl (X.2.2.1, 20, .inl (fun _ => 0))), (q5, .inl (X.2.2.1, 24, .inl (fun _ => 0))), (q6, .inl (X.2.2.1, 8, .inl (n_fill 7)))]) (by rw [← n_fill_s 6]; rfl) ?_
  refine n_iinc C (v := 7) (lv' := [(1, .int 7), (0, .ref h0)]) dX2_init_79 hl (k := 0) rfl rfl (by decide) rfl (fun lsA hl => ?_)
  refine n_goto C (t := 62) dX2_init_82 rfl ?_
  refine n_iload C (i := 1) dX2_init_62 rfl (lv_at hl 0 rfl) ?_
  refine n_bipush C (v := 8) dX2_init_63 rfl ?_
  refine n_ge_no C (t := 85) dX2_init_65 rfl (by decide) ?_
  refine n_aload C (i := 0) dX2_init_68 rfl (lv_at hl 1 rfl) ?_
  refine n_get C (rf := RX2) (T := TX2) (N := 8) 0 rfl rfl ginX2 7 (by decide) (m_tb_of 126 (by decide +kernel) rfl) rfl dX2_init_69 ?_
  refine n_iload C (i := 1) dX2_init_72 rfl (lv_at hl 0 rfl) ?_
  refine n_gets C rfl dX2_init_73 ?_
  refine n_iload C (i := 1) dX2_init_76 rfl (lv_at hl 0 rfl) ?_
  refine n_tld C (by unfold vp_in; decide) dX2_init_77 ?_
  refine n_iast C 6 rfl (by unfold vp_in; decide) dX2_init_78 ?_
  refine n_norm (ws2 := [(h0, .inr (2, [.int 0, .int 0, .ref q1, .ref q2, .ref q3, .ref q4, .ref q5, .ref q6])), (q1, .inl (X.2.2.1, 5, .inl (fun _ => 0))), (q2, .inl (X.2.2.1, 5, .inl (fun _ => 0))), (q3, .inl (X.2.2.1, 20, .inl (fun _ => 0))), (q4, .inl (X.2.2.1, 20, .inl (fun _ => 0))), (q5, .inl (X.2.2.1, 24, .inl (fun _ => 0))), (q6, .inl (X.2.2.1, 8, .inl (n_fill 8)))]) (by rw [← n_fill_s 7]; rfl) ?_
  refine n_iinc C (v := 8) (lv' := [(1, .int 8), (0, .ref h0)]) dX2_init_79 hl (k := 0) rfl rfl (by decide) rfl (fun lsA hl => ?_)
  refine n_goto C (t := 62) dX2_init_82 rfl ?_
  refine n_iload C (i := 1) dX2_init_62 rfl (lv_at hl 0 rfl) ?_
  refine n_bipush C (v := 8) dX2_init_63 rfl ?_
  refine n_ge_yes C (t := 85) dX2_init_65 rfl (by decide) ?_
  exact n_vret (V := V_2 X) C hr dX2_init_85 (fun i => ([h0, q1, q2, q3, q4, q5, q6] : List Nat).getD i 0) rfl [0, 1, 2, 3, 4, 5, 6] rfl rfl (by decide) hlk
def V_5 (X : m_X) (u : Nat → Nat) : va_W := [(u 0, .inr (5, [.ref (u 1)])), (u 1, .inl (X.2.2.1, 5, .inl (fun _ => 0)))]
set_option maxHeartbeats 4000000 in
set_option maxRecDepth 100000 in
theorem iX5 (l : Launch) (X : m_X) : n_Init l X 1 1 5 yX5_init cX5_init 1 5 [.null] (V_5 X) := by
  intro h0 sz
  refine Met.ofW (cc := cX5_init) (maxL := 1) (ret := none) (by decide) rfl ?_
  intro p e s m args below meth c s₁ B hml hv
  obtain ⟨rfl, hsz, hP, hK, hD0, hE, hO⟩ := hv
  have hts := atoms_spec (ws := .code yX5_init cX5_init 1 none :: m_tblG) B.pre
  have hown : s.vm.findClass "WhichLane$Rest" = some m.cls := findClass_of_methodNamed B.named
  have hin : meth.name = "<init>" := (name_of_methodNamed B.named B.method).1
  have hr := B.returns
  have hlk := B.notSynchronized
  subst hsz
  have hD := hD0.self (sz := s.heap.size)
  have C : n_Cx p s m (([.ref h0] : List Value)).toArray c (va_A [(h0, .inr (5, [.null]))] s.heap.size) X cX5_init 1 "WhichLane$Rest" := ⟨B.exec, B.bytes, hml, hown, fun w hw => hts w (List.mem_cons_of_mem _ hw), hK, hE, hO, fun q h => Or.inr h⟩
  have hl := lv_entry ([.ref h0]) (n := 1) (Nat.le_of_ble_eq_true rfl)
  rw [lg_entry_eq]
  generalize (lg_sl ([.ref h0]) ++ List.replicate (1 - (lg_sl ([.ref h0])).length) Slot.unset).toArray = lsA at hl ⊢
  have hl : lv_has lsA 1 [(0, .ref h0)] := hl
  refine (?_ : n_J p l e _ s m _ below meth c _ _ X 0 0 [(h0, .inr (5, [.null]))] 0 lsA []) s.heap [] hP hD va_S.rf
  refine n_aload C (i := 0) dX5_init_0 rfl (lv_at hl 0 rfl) ?_
  refine n_obj C hl.1 (m_tb_of 355 (by decide +kernel) rfl) (m_tb_of 95 (by decide +kernel) rfl) (m_tb_of 96 (by decide +kernel) rfl) dX5_init_1 ⟨Nat.le_of_ble_eq_true rfl, Nat.le_of_ble_eq_true rfl⟩ ?_
  refine n_aload C (i := 0) dX5_init_4 rfl (lv_at hl 0 rfl) ?_
  refine n_iconst C (v := 5) dX5_init_5 rfl ?_
  refine n_newI C (m_tb_of 147 (by decide +kernel) rfl) 5 (by decide) (by decide) (by decide) (Nat.le_of_ble_eq_true rfl) (Nat.le_of_ble_eq_true rfl) dX5_init_6 (fun q1 => ?_)
  refine n_norm (ws2 := [(h0, .inr (5, [.null])), (q1, .inl (X.2.2.1, 5, .inl (fun _ => 0)))]) rfl ?_
  refine n_put C (rf := RX5) (T := TX5) (N := 1) (v := .ref q1) 0 rfl rfl ginX5 0 (by decide) (m_tb_of 356 (by decide +kernel) rfl) (ty0 := tyX5) tyX5_ok nmX5 (Or.inr ⟨rfl, hin, rfl⟩) rfl rfl (Nat.le_of_ble_eq_true rfl) dX5_init_8 ?_
  refine n_norm (ws2 := [(h0, .inr (5, [.ref q1])), (q1, .inl (X.2.2.1, 5, .inl (fun _ => 0)))]) rfl ?_
  exact n_vret (V := V_5 X) C hr dX5_init_11 (fun i => ([h0, q1] : List Nat).getD i 0) rfl [0, 1] rfl rfl (by decide) hlk
def V_7 (X : m_X) (u : Nat → Nat) : va_W := [(u 0, .inr (7, [.ref (u 1), .int 0, .ref (u 2)])), (u 1, .inl (X.2.2.1, 6, .inl (fun _ => 0))), (u 2, .inl (X.2.2.1, 6, .inl (fun _ => 0)))]
set_option maxHeartbeats 4000000 in
set_option maxRecDepth 100000 in
theorem iX7 (l : Launch) (X : m_X) : n_Init l X 1 2 12 yX7_init cX7_init 1 7 [.null, .int 0, .null] (V_7 X) := by
  intro h0 sz
  refine Met.ofW (cc := cX7_init) (maxL := 1) (ret := none) (by decide) rfl ?_
  intro p e s m args below meth c s₁ B hml hv
  obtain ⟨rfl, hsz, hP, hK, hD0, hE, hO⟩ := hv
  have hts := atoms_spec (ws := .code yX7_init cX7_init 1 none :: m_tblG) B.pre
  have hown : s.vm.findClass "WhichLane$Weaver" = some m.cls := findClass_of_methodNamed B.named
  have hin : meth.name = "<init>" := (name_of_methodNamed B.named B.method).1
  have hr := B.returns
  have hlk := B.notSynchronized
  subst hsz
  have hD := hD0.self (sz := s.heap.size)
  have C : n_Cx p s m (([.ref h0] : List Value)).toArray c (va_A [(h0, .inr (7, [.null, .int 0, .null]))] s.heap.size) X cX7_init 1 "WhichLane$Weaver" := ⟨B.exec, B.bytes, hml, hown, fun w hw => hts w (List.mem_cons_of_mem _ hw), hK, hE, hO, fun q h => Or.inr h⟩
  have hl := lv_entry ([.ref h0]) (n := 1) (Nat.le_of_ble_eq_true rfl)
  rw [lg_entry_eq]
  generalize (lg_sl ([.ref h0]) ++ List.replicate (1 - (lg_sl ([.ref h0])).length) Slot.unset).toArray = lsA at hl ⊢
  have hl : lv_has lsA 1 [(0, .ref h0)] := hl
  refine (?_ : n_J p l e _ s m _ below meth c _ _ X 0 0 [(h0, .inr (7, [.null, .int 0, .null]))] 0 lsA []) s.heap [] hP hD va_S.rf
  refine n_aload C (i := 0) dX7_init_0 rfl (lv_at hl 0 rfl) ?_
  refine n_obj C hl.1 (m_tb_of 337 (by decide +kernel) rfl) (m_tb_of 95 (by decide +kernel) rfl) (m_tb_of 96 (by decide +kernel) rfl) dX7_init_1 ⟨Nat.le_of_ble_eq_true rfl, Nat.le_of_ble_eq_true rfl⟩ ?_
  refine n_aload C (i := 0) dX7_init_4 rfl (lv_at hl 0 rfl) ?_
  refine n_bipush C (v := 6) dX7_init_5 rfl ?_
  refine n_newI C (m_tb_of 147 (by decide +kernel) rfl) 6 (by decide) (by decide) (by decide) (Nat.le_of_ble_eq_true rfl) (Nat.le_of_ble_eq_true rfl) dX7_init_7 (fun q1 => ?_)
  refine n_norm (ws2 := [(h0, .inr (7, [.null, .int 0, .null])), (q1, .inl (X.2.2.1, 6, .inl (fun _ => 0)))]) rfl ?_
  refine n_put C (rf := RX7) (T := TX7) (N := 3) (v := .ref q1) 0 rfl rfl ginX7 0 (by decide) (m_tb_of 338 (by decide +kernel) rfl) (ty0 := tyX7) tyX7_ok nmX7 (Or.inr ⟨rfl, hin, rfl⟩) rfl rfl (Nat.le_of_ble_eq_true rfl) dX7_init_9 ?_
  refine n_norm (ws2 := [(h0, .inr (7, [.ref q1, .int 0, .null])), (q1, .inl (X.2.2.1, 6, .inl (fun _ => 0)))]) rfl ?_
  refine n_aload C (i := 0) dX7_init_12 rfl (lv_at hl 0 rfl) ?_
  refine n_bipush C (v := 6) dX7_init_13 rfl ?_
  refine n_newI C (m_tb_of 147 (by decide +kernel) rfl) 6 (by decide) (by decide) (by decide) (Nat.le_of_ble_eq_true rfl) (Nat.le_of_ble_eq_true rfl) dX7_init_15 (fun q2 => ?_)
  refine n_norm (ws2 := [(h0, .inr (7, [.ref q1, .int 0, .null])), (q1, .inl (X.2.2.1, 6, .inl (fun _ => 0))), (q2, .inl (X.2.2.1, 6, .inl (fun _ => 0)))]) rfl ?_
  refine n_put C (rf := RX7) (T := TX7) (N := 3) (v := .ref q2) 0 rfl rfl ginX7 2 (by decide) (m_tb_of 342 (by decide +kernel) rfl) (ty0 := tyX7) tyX7_ok nmX7 (Or.inr ⟨rfl, hin, rfl⟩) rfl rfl (Nat.le_of_ble_eq_true rfl) dX7_init_17 ?_
  refine n_norm (ws2 := [(h0, .inr (7, [.ref q1, .int 0, .ref q2])), (q1, .inl (X.2.2.1, 6, .inl (fun _ => 0))), (q2, .inl (X.2.2.1, 6, .inl (fun _ => 0)))]) rfl ?_
  refine n_aload C (i := 0) dX7_init_20 rfl (lv_at hl 0 rfl) ?_
  refine n_iconst C (v := 0) dX7_init_21 rfl ?_
  refine n_put C (rf := RX7) (T := TX7) (N := 3) (v := .int 0) 0 rfl rfl ginX7 1 (by decide) (m_tb_of 340 (by decide +kernel) rfl) (ty0 := tyX7) tyX7_ok nmX7 (Or.inl rfl) rfl rfl (Nat.le_of_ble_eq_true rfl) dX7_init_22 ?_
  refine n_norm (ws2 := [(h0, .inr (7, [.ref q1, .int 0, .ref q2])), (q1, .inl (X.2.2.1, 6, .inl (fun _ => 0))), (q2, .inl (X.2.2.1, 6, .inl (fun _ => 0)))]) rfl ?_
  exact n_vret (V := V_7 X) C hr dX7_init_25 (fun i => ([h0, q1, q2] : List Nat).getD i 0) rfl [0, 1, 2] rfl rfl (by decide) hlk
