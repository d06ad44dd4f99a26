theorem dX1_init_0 : decode cX1_init 0 = .ok (.aload_n 0, 1) := by decide +kernel
theorem dX1_init_1 : decode cX1_init 1 = .ok (.invokespecial 3, 3) := by decide +kernel
theorem dX1_init_4 : decode cX1_init 4 = .ok (.aload_n 0, 1) := by decide +kernel
theorem dX1_init_5 : decode cX1_init 5 = .ok (.iconst 0, 1) := by decide +kernel
theorem dX1_init_6 : decode cX1_init 6 = .ok (.putfield 9, 3) := by decide +kernel
theorem dX1_init_9 : decode cX1_init 9 = .ok (.aload_n 0, 1) := by decide +kernel
theorem dX1_init_10 : decode cX1_init 10 = .ok (.iconst 0, 1) := by decide +kernel
theorem dX1_init_11 : decode cX1_init 11 = .ok (.putfield 15, 3) := by decide +kernel
theorem dX1_init_14 : decode cX1_init 14 = .ok (.aload_n 0, 1) := by decide +kernel
theorem dX1_init_15 : decode cX1_init 15 = .ok (.iconst 0, 1) := by decide +kernel
theorem dX1_init_16 : decode cX1_init 16 = .ok (.putfield 18, 3) := by decide +kernel
theorem dX1_init_19 : decode cX1_init 19 = .ok (.aload_n 0, 1) := by decide +kernel
theorem dX1_init_20 : decode cX1_init 20 = .ok (.aconst_null, 1) := by decide +kernel
theorem dX1_init_21 : decode cX1_init 21 = .ok (.putfield 21, 3) := by decide +kernel
theorem dX1_init_24 : decode cX1_init 24 = .ok (.return_, 1) := by decide +kernel
theorem dX2_init_0 : decode cX2_init 0 = .ok (.aload_n 0, 1) := by decide +kernel
theorem dX2_init_1 : decode cX2_init 1 = .ok (.invokespecial 3, 3) := by decide +kernel
theorem dX2_init_4 : decode cX2_init 4 = .ok (.aload_n 0, 1) := by decide +kernel
theorem dX2_init_5 : decode cX2_init 5 = .ok (.iconst 0, 1) := by decide +kernel
theorem dX2_init_6 : decode cX2_init 6 = .ok (.putfield 9, 3) := by decide +kernel
theorem dX2_init_9 : decode cX2_init 9 = .ok (.aload_n 0, 1) := by decide +kernel
theorem dX2_init_10 : decode cX2_init 10 = .ok (.iconst 0, 1) := by decide +kernel
theorem dX2_init_11 : decode cX2_init 11 = .ok (.putfield 15, 3) := by decide +kernel
theorem dX2_init_14 : decode cX2_init 14 = .ok (.aload_n 0, 1) := by decide +kernel
theorem dX2_init_15 : decode cX2_init 15 = .ok (.bipush 80, 2) := by decide +kernel
theorem dX2_init_17 : decode cX2_init 17 = .ok (.newarray .int, 2) := by decide +kernel
theorem dX2_init_19 : decode cX2_init 19 = .ok (.putfield 19, 3) := by decide +kernel
theorem dX2_init_22 : decode cX2_init 22 = .ok (.aload_n 0, 1) := by decide +kernel
theorem dX2_init_23 : decode cX2_init 23 = .ok (.sipush 254, 3) := by decide +kernel
theorem dX2_init_26 : decode cX2_init 26 = .ok (.anewarray 23, 3) := by decide +kernel
theorem dX2_init_29 : decode cX2_init 29 = .ok (.putfield 24, 3) := by decide +kernel
theorem dX2_init_32 : decode cX2_init 32 = .ok (.return_, 1) := by decide +kernel
theorem dX4_init_0 : decode cX4_init 0 = .ok (.aload_n 0, 1) := by decide +kernel
theorem dX4_init_1 : decode cX4_init 1 = .ok (.invokespecial 3, 3) := by decide +kernel
theorem dX4_init_4 : decode cX4_init 4 = .ok (.aload_n 0, 1) := by decide +kernel
theorem dX4_init_5 : decode cX4_init 5 = .ok (.new 9, 3) := by decide +kernel
theorem dX4_init_8 : decode cX4_init 8 = .ok (.dup, 1) := by decide +kernel
theorem dX4_init_9 : decode cX4_init 9 = .ok (.invokespecial 11, 3) := by decide +kernel
theorem dX4_init_12 : decode cX4_init 12 = .ok (.putfield 12, 3) := by decide +kernel
theorem dX4_init_15 : decode cX4_init 15 = .ok (.aload_n 0, 1) := by decide +kernel
theorem dX4_init_16 : decode cX4_init 16 = .ok (.new 18, 3) := by decide +kernel
theorem dX4_init_19 : decode cX4_init 19 = .ok (.dup, 1) := by decide +kernel
theorem dX4_init_20 : decode cX4_init 20 = .ok (.invokespecial 20, 3) := by decide +kernel
theorem dX4_init_23 : decode cX4_init 23 = .ok (.putfield 21, 3) := by decide +kernel
theorem dX4_init_26 : decode cX4_init 26 = .ok (.aload_n 0, 1) := by decide +kernel
theorem dX4_init_27 : decode cX4_init 27 = .ok (.new 25, 3) := by decide +kernel
theorem dX4_init_30 : decode cX4_init 30 = .ok (.dup, 1) := by decide +kernel
theorem dX4_init_31 : decode cX4_init 31 = .ok (.invokespecial 27, 3) := by decide +kernel
theorem dX4_init_34 : decode cX4_init 34 = .ok (.putfield 28, 3) := by decide +kernel
theorem dX4_init_37 : decode cX4_init 37 = .ok (.aload_n 0, 1) := by decide +kernel
theorem dX4_init_38 : decode cX4_init 38 = .ok (.iconst 3, 1) := by decide +kernel
theorem dX4_init_39 : decode cX4_init 39 = .ok (.anewarray 32, 3) := by decide +kernel
theorem dX4_init_42 : decode cX4_init 42 = .ok (.putfield 34, 3) := by decide +kernel
theorem dX4_init_45 : decode cX4_init 45 = .ok (.aload_n 0, 1) := by decide +kernel
theorem dX4_init_46 : decode cX4_init 46 = .ok (.new 38, 3) := by decide +kernel
theorem dX4_init_49 : decode cX4_init 49 = .ok (.dup, 1) := by decide +kernel
theorem dX4_init_50 : decode cX4_init 50 = .ok (.invokespecial 40, 3) := by decide +kernel
theorem dX4_init_53 : decode cX4_init 53 = .ok (.putfield 41, 3) := by decide +kernel
theorem dX4_init_56 : decode cX4_init 56 = .ok (.aload_n 0, 1) := by decide +kernel
theorem dX4_init_57 : decode cX4_init 57 = .ok (.bipush 10, 2) := by decide +kernel
theorem dX4_init_59 : decode cX4_init 59 = .ok (.newarray .int, 2) := by decide +kernel
theorem dX4_init_61 : decode cX4_init 61 = .ok (.putfield 45, 3) := by decide +kernel
theorem dX4_init_64 : decode cX4_init 64 = .ok (.aload_n 0, 1) := by decide +kernel
theorem dX4_init_65 : decode cX4_init 65 = .ok (.iconst 0, 1) := by decide +kernel
theorem dX4_init_66 : decode cX4_init 66 = .ok (.putfield 49, 3) := by decide +kernel
theorem dX4_init_69 : decode cX4_init 69 = .ok (.aload_n 0, 1) := by decide +kernel
theorem dX4_init_70 : decode cX4_init 70 = .ok (.iconst 0, 1) := by decide +kernel
theorem dX4_init_71 : decode cX4_init 71 = .ok (.putfield 53, 3) := by decide +kernel
theorem dX4_init_74 : decode cX4_init 74 = .ok (.aload_n 0, 1) := by decide +kernel
theorem dX4_init_75 : decode cX4_init 75 = .ok (.iconst (-1), 1) := by decide +kernel
theorem dX4_init_76 : decode cX4_init 76 = .ok (.putfield 56, 3) := by decide +kernel
theorem dX4_init_79 : decode cX4_init 79 = .ok (.aload_n 0, 1) := by decide +kernel
theorem dX4_init_80 : decode cX4_init 80 = .ok (.iconst 0, 1) := by decide +kernel
theorem dX4_init_81 : decode cX4_init 81 = .ok (.putfield 59, 3) := by decide +kernel
theorem dX4_init_84 : decode cX4_init 84 = .ok (.aload_n 0, 1) := by decide +kernel
theorem dX4_init_85 : decode cX4_init 85 = .ok (.iconst 0, 1) := by decide +kernel
theorem dX4_init_86 : decode cX4_init 86 = .ok (.putfield 62, 3) := by decide +kernel
theorem dX4_init_89 : decode cX4_init 89 = .ok (.aload_n 0, 1) := by decide +kernel
theorem dX4_init_90 : decode cX4_init 90 = .ok (.iload_n 1, 1) := by decide +kernel
theorem dX4_init_91 : decode cX4_init 91 = .ok (.putfield 65, 3) := by decide +kernel
theorem dX4_init_94 : decode cX4_init 94 = .ok (.aload_n 0, 1) := by decide +kernel
theorem dX4_init_95 : decode cX4_init 95 = .ok (.iload_n 2, 1) := by decide +kernel
theorem dX4_init_96 : decode cX4_init 96 = .ok (.putfield 68, 3) := by decide +kernel
theorem dX4_init_99 : decode cX4_init 99 = .ok (.aload_n 0, 1) := by decide +kernel
theorem dX4_init_100 : decode cX4_init 100 = .ok (.iload_n 3, 1) := by decide +kernel
theorem dX4_init_101 : decode cX4_init 101 = .ok (.putfield 71, 3) := by decide +kernel
theorem dX4_init_104 : decode cX4_init 104 = .ok (.aload_n 0, 1) := by decide +kernel
theorem dX4_init_105 : decode cX4_init 105 = .ok (.iload 4, 2) := by decide +kernel
theorem dX4_init_107 : decode cX4_init 107 = .ok (.putfield 74, 3) := by decide +kernel
theorem dX4_init_110 : decode cX4_init 110 = .ok (.aload_n 0, 1) := by decide +kernel
theorem dX4_init_111 : decode cX4_init 111 = .ok (.iload 5, 2) := by decide +kernel
theorem dX4_init_113 : decode cX4_init 113 = .ok (.putfield 78, 3) := by decide +kernel
theorem dX4_init_116 : decode cX4_init 116 = .ok (.aload_n 0, 1) := by decide +kernel
theorem dX4_init_117 : decode cX4_init 117 = .ok (.iload_n 3, 1) := by decide +kernel
theorem dX4_init_118 : decode cX4_init 118 = .ok (.putfield 81, 3) := by decide +kernel
theorem dX4_init_121 : decode cX4_init 121 = .ok (.aload_n 0, 1) := by decide +kernel
theorem dX4_init_122 : decode cX4_init 122 = .ok (.new 84, 3) := by decide +kernel
theorem dX4_init_125 : decode cX4_init 125 = .ok (.dup, 1) := by decide +kernel
theorem dX4_init_126 : decode cX4_init 126 = .ok (.iload_n 1, 1) := by decide +kernel
theorem dX4_init_127 : decode cX4_init 127 = .ok (.iload_n 2, 1) := by decide +kernel
theorem dX4_init_128 : decode cX4_init 128 = .ok (.aload 6, 2) := by decide +kernel
theorem dX4_init_130 : decode cX4_init 130 = .ok (.invokespecial 86, 3) := by decide +kernel
theorem dX4_init_133 : decode cX4_init 133 = .ok (.putfield 89, 3) := by decide +kernel
theorem dX4_init_136 : decode cX4_init 136 = .ok (.return_, 1) := by decide +kernel
theorem dX5_init_0 : decode cX5_init 0 = .ok (.aload_n 0, 1) := by decide +kernel
theorem dX5_init_1 : decode cX5_init 1 = .ok (.invokespecial 3, 3) := by decide +kernel
theorem dX5_init_4 : decode cX5_init 4 = .ok (.aload_n 0, 1) := by decide +kernel
theorem dX5_init_5 : decode cX5_init 5 = .ok (.aconst_null, 1) := by decide +kernel
theorem dX5_init_6 : decode cX5_init 6 = .ok (.putfield 9, 3) := by decide +kernel
theorem dX5_init_9 : decode cX5_init 9 = .ok (.aload_n 0, 1) := by decide +kernel
theorem dX5_init_10 : decode cX5_init 10 = .ok (.aconst_null, 1) := by decide +kernel
theorem dX5_init_11 : decode cX5_init 11 = .ok (.putfield 15, 3) := by decide +kernel
theorem dX5_init_14 : decode cX5_init 14 = .ok (.aload_n 0, 1) := by decide +kernel
theorem dX5_init_15 : decode cX5_init 15 = .ok (.iconst 0, 1) := by decide +kernel
theorem dX5_init_16 : decode cX5_init 16 = .ok (.putfield 18, 3) := by decide +kernel
theorem dX5_init_19 : decode cX5_init 19 = .ok (.aload_n 0, 1) := by decide +kernel
theorem dX5_init_20 : decode cX5_init 20 = .ok (.iconst 0, 1) := by decide +kernel
theorem dX5_init_21 : decode cX5_init 21 = .ok (.putfield 22, 3) := by decide +kernel
theorem dX5_init_24 : decode cX5_init 24 = .ok (.aload_n 0, 1) := by decide +kernel
theorem dX5_init_25 : decode cX5_init 25 = .ok (.iconst 0, 1) := by decide +kernel
theorem dX5_init_26 : decode cX5_init 26 = .ok (.putfield 25, 3) := by decide +kernel
theorem dX5_init_29 : decode cX5_init 29 = .ok (.aload_n 0, 1) := by decide +kernel
theorem dX5_init_30 : decode cX5_init 30 = .ok (.iconst 0, 1) := by decide +kernel
theorem dX5_init_31 : decode cX5_init 31 = .ok (.putfield 28, 3) := by decide +kernel
theorem dX5_init_34 : decode cX5_init 34 = .ok (.aload_n 0, 1) := by decide +kernel
theorem dX5_init_35 : decode cX5_init 35 = .ok (.iconst 0, 1) := by decide +kernel
theorem dX5_init_36 : decode cX5_init 36 = .ok (.putfield 31, 3) := by decide +kernel
theorem dX5_init_39 : decode cX5_init 39 = .ok (.aload_n 0, 1) := by decide +kernel
theorem dX5_init_40 : decode cX5_init 40 = .ok (.new 35, 3) := by decide +kernel
theorem dX5_init_43 : decode cX5_init 43 = .ok (.dup, 1) := by decide +kernel
theorem dX5_init_44 : decode cX5_init 44 = .ok (.invokespecial 37, 3) := by decide +kernel
theorem dX5_init_47 : decode cX5_init 47 = .ok (.putfield 38, 3) := by decide +kernel
theorem dX5_init_50 : decode cX5_init 50 = .ok (.aload_n 0, 1) := by decide +kernel
theorem dX5_init_51 : decode cX5_init 51 = .ok (.iconst 0, 1) := by decide +kernel
theorem dX5_init_52 : decode cX5_init 52 = .ok (.putfield 42, 3) := by decide +kernel
theorem dX5_init_55 : decode cX5_init 55 = .ok (.aload_n 0, 1) := by decide +kernel
theorem dX5_init_56 : decode cX5_init 56 = .ok (.iload_n 1, 1) := by decide +kernel
theorem dX5_init_57 : decode cX5_init 57 = .ok (.putfield 45, 3) := by decide +kernel
theorem dX5_init_60 : decode cX5_init 60 = .ok (.aload_n 0, 1) := by decide +kernel
theorem dX5_init_61 : decode cX5_init 61 = .ok (.iload_n 2, 1) := by decide +kernel
theorem dX5_init_62 : decode cX5_init 62 = .ok (.putfield 48, 3) := by decide +kernel
theorem dX5_init_65 : decode cX5_init 65 = .ok (.aload_n 0, 1) := by decide +kernel
theorem dX5_init_66 : decode cX5_init 66 = .ok (.aload_n 3, 1) := by decide +kernel
theorem dX5_init_67 : decode cX5_init 67 = .ok (.putfield 51, 3) := by decide +kernel
theorem dX5_init_70 : decode cX5_init 70 = .ok (.return_, 1) := by decide +kernel
theorem dX6_init_0 : decode cX6_init 0 = .ok (.aload_n 0, 1) := by decide +kernel
theorem dX6_init_1 : decode cX6_init 1 = .ok (.invokespecial 3, 3) := by decide +kernel
theorem dX6_init_4 : decode cX6_init 4 = .ok (.aload_n 0, 1) := by decide +kernel
theorem dX6_init_5 : decode cX6_init 5 = .ok (.iconst 0, 1) := by decide +kernel
theorem dX6_init_6 : decode cX6_init 6 = .ok (.putfield 9, 3) := by decide +kernel
theorem dX6_init_9 : decode cX6_init 9 = .ok (.aload_n 0, 1) := by decide +kernel
theorem dX6_init_10 : decode cX6_init 10 = .ok (.iconst 1, 1) := by decide +kernel
theorem dX6_init_11 : decode cX6_init 11 = .ok (.putfield 15, 3) := by decide +kernel
theorem dX6_init_14 : decode cX6_init 14 = .ok (.aload_n 0, 1) := by decide +kernel
theorem dX6_init_15 : decode cX6_init 15 = .ok (.iconst 0, 1) := by decide +kernel
theorem dX6_init_16 : decode cX6_init 16 = .ok (.putfield 18, 3) := by decide +kernel
theorem dX6_init_19 : decode cX6_init 19 = .ok (.aload_n 0, 1) := by decide +kernel
theorem dX6_init_20 : decode cX6_init 20 = .ok (.aconst_null, 1) := by decide +kernel
theorem dX6_init_21 : decode cX6_init 21 = .ok (.putfield 21, 3) := by decide +kernel
theorem dX6_init_24 : decode cX6_init 24 = .ok (.return_, 1) := by decide +kernel
theorem dX7_init_0 : decode cX7_init 0 = .ok (.aload_n 0, 1) := by decide +kernel
theorem dX7_init_1 : decode cX7_init 1 = .ok (.invokespecial 3, 3) := by decide +kernel
theorem dX7_init_4 : decode cX7_init 4 = .ok (.aload_n 0, 1) := by decide +kernel
theorem dX7_init_5 : decode cX7_init 5 = .ok (.new 9, 3) := by decide +kernel
theorem dX7_init_8 : decode cX7_init 8 = .ok (.dup, 1) := by decide +kernel
theorem dX7_init_9 : decode cX7_init 9 = .ok (.invokespecial 11, 3) := by decide +kernel
theorem dX7_init_12 : decode cX7_init 12 = .ok (.putfield 12, 3) := by decide +kernel
theorem dX7_init_15 : decode cX7_init 15 = .ok (.aload_n 0, 1) := by decide +kernel
theorem dX7_init_16 : decode cX7_init 16 = .ok (.aconst_null, 1) := by decide +kernel
theorem dX7_init_17 : decode cX7_init 17 = .ok (.putfield 18, 3) := by decide +kernel
theorem dX7_init_20 : decode cX7_init 20 = .ok (.return_, 1) := by decide +kernel
theorem dX8_init_0 : decode cX8_init 0 = .ok (.aload_n 0, 1) := by decide +kernel
theorem dX8_init_1 : decode cX8_init 1 = .ok (.invokespecial 3, 3) := by decide +kernel
theorem dX8_init_4 : decode cX8_init 4 = .ok (.aload_n 0, 1) := by decide +kernel
theorem dX8_init_5 : decode cX8_init 5 = .ok (.bipush 8, 2) := by decide +kernel
theorem dX8_init_7 : decode cX8_init 7 = .ok (.newarray .int, 2) := by decide +kernel
theorem dX8_init_9 : decode cX8_init 9 = .ok (.putfield 9, 3) := by decide +kernel
theorem dX8_init_12 : decode cX8_init 12 = .ok (.aload_n 0, 1) := by decide +kernel
theorem dX8_init_13 : decode cX8_init 13 = .ok (.invokevirtual 15, 3) := by decide +kernel
theorem dX8_init_16 : decode cX8_init 16 = .ok (.return_, 1) := by decide +kernel
theorem dX8_clear_0 : decode cX8_clear 0 = .ok (.iconst 0, 1) := by decide +kernel
theorem dX8_clear_1 : decode cX8_clear 1 = .ok (.istore_n 1, 1) := by decide +kernel
theorem dX8_clear_2 : decode cX8_clear 2 = .ok (.iload_n 1, 1) := by decide +kernel
theorem dX8_clear_3 : decode cX8_clear 3 = .ok (.bipush 8, 2) := by decide +kernel
theorem dX8_clear_5 : decode cX8_clear 5 = .ok (.if_icmp .ge 16, 3) := by decide +kernel
theorem dX8_clear_8 : decode cX8_clear 8 = .ok (.aload_n 0, 1) := by decide +kernel
theorem dX8_clear_9 : decode cX8_clear 9 = .ok (.getfield 9, 3) := by decide +kernel
theorem dX8_clear_12 : decode cX8_clear 12 = .ok (.iload_n 1, 1) := by decide +kernel
theorem dX8_clear_13 : decode cX8_clear 13 = .ok (.iconst (-1), 1) := by decide +kernel
theorem dX8_clear_14 : decode cX8_clear 14 = .ok (.iastore, 1) := by decide +kernel
theorem dX8_clear_15 : decode cX8_clear 15 = .ok (.iinc 1 1, 3) := by decide +kernel
theorem dX8_clear_18 : decode cX8_clear 18 = .ok (.goto (-16), 3) := by decide +kernel
theorem dX8_clear_21 : decode cX8_clear 21 = .ok (.return_, 1) := by decide +kernel
theorem dX10_init_0 : decode cX10_init 0 = .ok (.aload_n 0, 1) := by decide +kernel
theorem dX10_init_1 : decode cX10_init 1 = .ok (.invokespecial 1, 3) := by decide +kernel
theorem dX10_init_4 : decode cX10_init 4 = .ok (.aload_n 0, 1) := by decide +kernel
theorem dX10_init_5 : decode cX10_init 5 = .ok (.bipush 8, 2) := by decide +kernel
theorem dX10_init_7 : decode cX10_init 7 = .ok (.anewarray 9, 3) := by decide +kernel
theorem dX10_init_10 : decode cX10_init 10 = .ok (.putfield 11, 3) := by decide +kernel
theorem dX10_init_13 : decode cX10_init 13 = .ok (.aload_n 0, 1) := by decide +kernel
theorem dX10_init_14 : decode cX10_init 14 = .ok (.new 15, 3) := by decide +kernel
theorem dX10_init_17 : decode cX10_init 17 = .ok (.dup, 1) := by decide +kernel
theorem dX10_init_18 : decode cX10_init 18 = .ok (.invokespecial 17, 3) := by decide +kernel
theorem dX10_init_21 : decode cX10_init 21 = .ok (.putfield 18, 3) := by decide +kernel
theorem dX10_init_24 : decode cX10_init 24 = .ok (.aload_n 0, 1) := by decide +kernel
theorem dX10_init_25 : decode cX10_init 25 = .ok (.new 22, 3) := by decide +kernel
theorem dX10_init_28 : decode cX10_init 28 = .ok (.dup, 1) := by decide +kernel
theorem dX10_init_29 : decode cX10_init 29 = .ok (.invokespecial 24, 3) := by decide +kernel
theorem dX10_init_32 : decode cX10_init 32 = .ok (.putfield 25, 3) := by decide +kernel
theorem dX10_init_35 : decode cX10_init 35 = .ok (.aload_n 0, 1) := by decide +kernel
theorem dX10_init_36 : decode cX10_init 36 = .ok (.iconst 0, 1) := by decide +kernel
theorem dX10_init_37 : decode cX10_init 37 = .ok (.putfield 29, 3) := by decide +kernel
theorem dX10_init_40 : decode cX10_init 40 = .ok (.aload_n 0, 1) := by decide +kernel
theorem dX10_init_41 : decode cX10_init 41 = .ok (.iconst 0, 1) := by decide +kernel
theorem dX10_init_42 : decode cX10_init 42 = .ok (.putfield 33, 3) := by decide +kernel
theorem dX10_init_45 : decode cX10_init 45 = .ok (.aload_n 0, 1) := by decide +kernel
theorem dX10_init_46 : decode cX10_init 46 = .ok (.iconst 0, 1) := by decide +kernel
theorem dX10_init_47 : decode cX10_init 47 = .ok (.putfield 36, 3) := by decide +kernel
theorem dX10_init_50 : decode cX10_init 50 = .ok (.aload_n 0, 1) := by decide +kernel
theorem dX10_init_51 : decode cX10_init 51 = .ok (.iconst (-1), 1) := by decide +kernel
theorem dX10_init_52 : decode cX10_init 52 = .ok (.putfield 39, 3) := by decide +kernel
theorem dX10_init_55 : decode cX10_init 55 = .ok (.aload_n 0, 1) := by decide +kernel
theorem dX10_init_56 : decode cX10_init 56 = .ok (.iconst 0, 1) := by decide +kernel
theorem dX10_init_57 : decode cX10_init 57 = .ok (.putfield 42, 3) := by decide +kernel
theorem dX10_init_60 : decode cX10_init 60 = .ok (.return_, 1) := by decide +kernel
theorem dX10_node_0 : decode cX10_node 0 = .ok (.iload_n 3, 1) := by decide +kernel
theorem dX10_node_1 : decode cX10_node 1 = .ok (.ifCond .lt 23, 3) := by decide +kernel
theorem dX10_node_4 : decode cX10_node 4 = .ok (.iload_n 3, 1) := by decide +kernel
theorem dX10_node_5 : decode cX10_node 5 = .ok (.sipush 247, 3) := by decide +kernel
theorem dX10_node_8 : decode cX10_node 8 = .ok (.if_icmp .gt 16, 3) := by decide +kernel
theorem dX10_node_11 : decode cX10_node 11 = .ok (.iload 5, 2) := by decide +kernel
theorem dX10_node_13 : decode cX10_node 13 = .ok (.iconst 1, 1) := by decide +kernel
theorem dX10_node_14 : decode cX10_node 14 = .ok (.if_icmp .lt 10, 3) := by decide +kernel
theorem dX10_node_17 : decode cX10_node 17 = .ok (.iload 5, 2) := by decide +kernel
theorem dX10_node_19 : decode cX10_node 19 = .ok (.bipush 16, 2) := by decide +kernel
theorem dX10_node_21 : decode cX10_node 21 = .ok (.if_icmp .le 5, 3) := by decide +kernel
theorem dX10_node_24 : decode cX10_node 24 = .ok (.iconst (-1), 1) := by decide +kernel
theorem dX10_node_25 : decode cX10_node 25 = .ok (.ireturn, 1) := by decide +kernel
theorem dX10_node_26 : decode cX10_node 26 = .ok (.aload_n 0, 1) := by decide +kernel
theorem dX10_node_27 : decode cX10_node 27 = .ok (.getfield 29, 3) := by decide +kernel
theorem dX10_node_30 : decode cX10_node 30 = .ok (.bipush 8, 2) := by decide +kernel
theorem dX10_node_32 : decode cX10_node 32 = .ok (.if_icmp .ge 12, 3) := by decide +kernel
theorem dX10_node_35 : decode cX10_node 35 = .ok (.aload_n 0, 1) := by decide +kernel
theorem dX10_node_36 : decode cX10_node 36 = .ok (.iload_n 1, 1) := by decide +kernel
theorem dX10_node_37 : decode cX10_node 37 = .ok (.iload_n 2, 1) := by decide +kernel
theorem dX10_node_38 : decode cX10_node 38 = .ok (.invokevirtual 46, 3) := by decide +kernel
theorem dX10_node_41 : decode cX10_node 41 = .ok (.ifCond .eq 5, 3) := by decide +kernel
theorem dX10_node_44 : decode cX10_node 44 = .ok (.iconst (-1), 1) := by decide +kernel
theorem dX10_node_45 : decode cX10_node 45 = .ok (.ireturn, 1) := by decide +kernel
theorem dX10_node_46 : decode cX10_node 46 = .ok (.aload_n 0, 1) := by decide +kernel
theorem dX10_node_47 : decode cX10_node 47 = .ok (.getfield 11, 3) := by decide +kernel
theorem dX10_node_50 : decode cX10_node 50 = .ok (.aload_n 0, 1) := by decide +kernel
theorem dX10_node_51 : decode cX10_node 51 = .ok (.getfield 29, 3) := by decide +kernel
theorem dX10_node_54 : decode cX10_node 54 = .ok (.new 9, 3) := by decide +kernel
theorem dX10_node_57 : decode cX10_node 57 = .ok (.dup, 1) := by decide +kernel
theorem dX10_node_58 : decode cX10_node 58 = .ok (.iload_n 1, 1) := by decide +kernel
theorem dX10_node_59 : decode cX10_node 59 = .ok (.iload_n 2, 1) := by decide +kernel
theorem dX10_node_60 : decode cX10_node 60 = .ok (.iload_n 3, 1) := by decide +kernel
theorem dX10_node_61 : decode cX10_node 61 = .ok (.iload 4, 2) := by decide +kernel
theorem dX10_node_63 : decode cX10_node 63 = .ok (.iload 5, 2) := by decide +kernel
theorem dX10_node_65 : decode cX10_node 65 = .ok (.aload_n 0, 1) := by decide +kernel
theorem dX10_node_66 : decode cX10_node 66 = .ok (.getfield 18, 3) := by decide +kernel
theorem dX10_node_69 : decode cX10_node 69 = .ok (.invokespecial 50, 3) := by decide +kernel
theorem dX10_node_72 : decode cX10_node 72 = .ok (.aastore, 1) := by decide +kernel
theorem dX10_node_73 : decode cX10_node 73 = .ok (.aload_n 0, 1) := by decide +kernel
theorem dX10_node_74 : decode cX10_node 74 = .ok (.dup, 1) := by decide +kernel
theorem dX10_node_75 : decode cX10_node 75 = .ok (.getfield 29, 3) := by decide +kernel
theorem dX10_node_78 : decode cX10_node 78 = .ok (.iconst 1, 1) := by decide +kernel
theorem dX10_node_79 : decode cX10_node 79 = .ok (.iadd, 1) := by decide +kernel
theorem dX10_node_80 : decode cX10_node 80 = .ok (.putfield 29, 3) := by decide +kernel
theorem dX10_node_83 : decode cX10_node 83 = .ok (.aload_n 0, 1) := by decide +kernel
theorem dX10_node_84 : decode cX10_node 84 = .ok (.getfield 29, 3) := by decide +kernel
theorem dX10_node_87 : decode cX10_node 87 = .ok (.iconst 1, 1) := by decide +kernel
theorem dX10_node_88 : decode cX10_node 88 = .ok (.isub, 1) := by decide +kernel
theorem dX10_node_89 : decode cX10_node 89 = .ok (.ireturn, 1) := by decide +kernel
theorem dX10_start_0 : decode cX10_start 0 = .ok (.aload_n 0, 1) := by decide +kernel
theorem dX10_start_1 : decode cX10_start 1 = .ok (.iload_n 1, 1) := by decide +kernel
theorem dX10_start_2 : decode cX10_start 2 = .ok (.invokevirtual 53, 3) := by decide +kernel
theorem dX10_start_5 : decode cX10_start 5 = .ok (.astore_n 2, 1) := by decide +kernel
theorem dX10_start_6 : decode cX10_start 6 = .ok (.aload_n 2, 1) := by decide +kernel
theorem dX10_start_7 : decode cX10_start 7 = .ok (.ifnull 10, 3) := by decide +kernel
theorem dX10_start_10 : decode cX10_start 10 = .ok (.aload_n 2, 1) := by decide +kernel
theorem dX10_start_11 : decode cX10_start 11 = .ok (.getfield 57, 3) := by decide +kernel
theorem dX10_start_14 : decode cX10_start 14 = .ok (.ifCond .eq 5, 3) := by decide +kernel
theorem dX10_start_17 : decode cX10_start 17 = .ok (.iconst 0, 1) := by decide +kernel
theorem dX10_start_18 : decode cX10_start 18 = .ok (.ireturn, 1) := by decide +kernel
theorem dX10_start_19 : decode cX10_start 19 = .ok (.aload_n 2, 1) := by decide +kernel
theorem dX10_start_20 : decode cX10_start 20 = .ok (.aload_n 2, 1) := by decide +kernel
theorem dX10_start_21 : decode cX10_start 21 = .ok (.getfield 60, 3) := by decide +kernel
theorem dX10_start_24 : decode cX10_start 24 = .ok (.invokevirtual 63, 3) := by decide +kernel
theorem dX10_start_27 : decode cX10_start 27 = .ok (.iconst 1, 1) := by decide +kernel
theorem dX10_start_28 : decode cX10_start 28 = .ok (.ireturn, 1) := by decide +kernel
theorem dX10_stop_0 : decode cX10_stop 0 = .ok (.aload_n 0, 1) := by decide +kernel
theorem dX10_stop_1 : decode cX10_stop 1 = .ok (.iload_n 1, 1) := by decide +kernel
theorem dX10_stop_2 : decode cX10_stop 2 = .ok (.invokevirtual 53, 3) := by decide +kernel
theorem dX10_stop_5 : decode cX10_stop 5 = .ok (.astore_n 2, 1) := by decide +kernel
theorem dX10_stop_6 : decode cX10_stop 6 = .ok (.aload_n 2, 1) := by decide +kernel
theorem dX10_stop_7 : decode cX10_stop 7 = .ok (.ifnull 10, 3) := by decide +kernel
theorem dX10_stop_10 : decode cX10_stop 10 = .ok (.aload_n 2, 1) := by decide +kernel
theorem dX10_stop_11 : decode cX10_stop 11 = .ok (.getfield 57, 3) := by decide +kernel
theorem dX10_stop_14 : decode cX10_stop 14 = .ok (.ifCond .ne 5, 3) := by decide +kernel
theorem dX10_stop_17 : decode cX10_stop 17 = .ok (.iconst 0, 1) := by decide +kernel
theorem dX10_stop_18 : decode cX10_stop 18 = .ok (.ireturn, 1) := by decide +kernel
theorem dX10_stop_19 : decode cX10_stop 19 = .ok (.aload_n 2, 1) := by decide +kernel
theorem dX10_stop_20 : decode cX10_stop 20 = .ok (.invokevirtual 67, 3) := by decide +kernel
theorem dX10_stop_23 : decode cX10_stop 23 = .ok (.aload_n 0, 1) := by decide +kernel
theorem dX10_stop_24 : decode cX10_stop 24 = .ok (.iconst 1, 1) := by decide +kernel
theorem dX10_stop_25 : decode cX10_stop 25 = .ok (.putfield 42, 3) := by decide +kernel
theorem dX10_stop_28 : decode cX10_stop 28 = .ok (.iconst 1, 1) := by decide +kernel
theorem dX10_stop_29 : decode cX10_stop 29 = .ok (.ireturn, 1) := by decide +kernel
theorem dX10_request_0 : decode cX10_request 0 = .ok (.aload_n 0, 1) := by decide +kernel
theorem dX10_request_1 : decode cX10_request 1 = .ok (.iload_n 1, 1) := by decide +kernel
theorem dX10_request_2 : decode cX10_request 2 = .ok (.invokevirtual 53, 3) := by decide +kernel
theorem dX10_request_5 : decode cX10_request 5 = .ok (.astore_n 3, 1) := by decide +kernel
theorem dX10_request_6 : decode cX10_request 6 = .ok (.aload_n 3, 1) := by decide +kernel
theorem dX10_request_7 : decode cX10_request 7 = .ok (.ifnull 18, 3) := by decide +kernel
theorem dX10_request_10 : decode cX10_request 10 = .ok (.aload_n 3, 1) := by decide +kernel
theorem dX10_request_11 : decode cX10_request 11 = .ok (.getfield 57, 3) := by decide +kernel
theorem dX10_request_14 : decode cX10_request 14 = .ok (.iconst 2, 1) := by decide +kernel
theorem dX10_request_15 : decode cX10_request 15 = .ok (.if_icmp .ne 10, 3) := by decide +kernel
theorem dX10_request_18 : decode cX10_request 18 = .ok (.iload_n 2, 1) := by decide +kernel
theorem dX10_request_19 : decode cX10_request 19 = .ok (.invokestatic 70, 3) := by decide +kernel
theorem dX10_request_22 : decode cX10_request 22 = .ok (.ifCond .ne 5, 3) := by decide +kernel
theorem dX10_request_25 : decode cX10_request 25 = .ok (.iconst 0, 1) := by decide +kernel
theorem dX10_request_26 : decode cX10_request 26 = .ok (.ireturn, 1) := by decide +kernel
theorem dX10_request_27 : decode cX10_request 27 = .ok (.aload_n 3, 1) := by decide +kernel
theorem dX10_request_28 : decode cX10_request 28 = .ok (.getfield 74, 3) := by decide +kernel
theorem dX10_request_31 : decode cX10_request 31 = .ok (.aconst_null, 1) := by decide +kernel
theorem dX10_request_32 : decode cX10_request 32 = .ok (.iload_n 2, 1) := by decide +kernel
theorem dX10_request_33 : decode cX10_request 33 = .ok (.sipush 234, 3) := by decide +kernel
theorem dX10_request_36 : decode cX10_request 36 = .ok (.iconst 0, 1) := by decide +kernel
theorem dX10_request_37 : decode cX10_request 37 = .ok (.iconst 0, 1) := by decide +kernel
theorem dX10_request_38 : decode cX10_request 38 = .ok (.invokevirtual 78, 3) := by decide +kernel
theorem dX10_request_41 : decode cX10_request 41 = .ok (.iconst 1, 1) := by decide +kernel
theorem dX10_request_42 : decode cX10_request 42 = .ok (.ireturn, 1) := by decide +kernel
theorem dX10_send_0 : decode cX10_send 0 = .ok (.aload_n 0, 1) := by decide +kernel
theorem dX10_send_1 : decode cX10_send 1 = .ok (.iload_n 1, 1) := by decide +kernel
theorem dX10_send_2 : decode cX10_send 2 = .ok (.invokevirtual 53, 3) := by decide +kernel
theorem dX10_send_5 : decode cX10_send 5 = .ok (.astore 6, 2) := by decide +kernel
theorem dX10_send_7 : decode cX10_send 7 = .ok (.aload 6, 2) := by decide +kernel
theorem dX10_send_9 : decode cX10_send 9 = .ok (.ifnull 21, 3) := by decide +kernel
theorem dX10_send_12 : decode cX10_send 12 = .ok (.aload 6, 2) := by decide +kernel
theorem dX10_send_14 : decode cX10_send 14 = .ok (.invokevirtual 84, 3) := by decide +kernel
theorem dX10_send_17 : decode cX10_send 17 = .ok (.ifCond .eq 13, 3) := by decide +kernel
theorem dX10_send_20 : decode cX10_send 20 = .ok (.iload_n 2, 1) := by decide +kernel
theorem dX10_send_21 : decode cX10_send 21 = .ok (.iload_n 3, 1) := by decide +kernel
theorem dX10_send_22 : decode cX10_send 22 = .ok (.iload 4, 2) := by decide +kernel
theorem dX10_send_24 : decode cX10_send 24 = .ok (.invokestatic 88, 3) := by decide +kernel
theorem dX10_send_27 : decode cX10_send 27 = .ok (.ifCond .ne 5, 3) := by decide +kernel
theorem dX10_send_30 : decode cX10_send 30 = .ok (.iconst 0, 1) := by decide +kernel
theorem dX10_send_31 : decode cX10_send 31 = .ok (.ireturn, 1) := by decide +kernel
theorem dX10_send_32 : decode cX10_send 32 = .ok (.aload 6, 2) := by decide +kernel
theorem dX10_send_34 : decode cX10_send 34 = .ok (.aload_n 0, 1) := by decide +kernel
theorem dX10_send_35 : decode cX10_send 35 = .ok (.getfield 18, 3) := by decide +kernel
theorem dX10_send_38 : decode cX10_send 38 = .ok (.iload_n 2, 1) := by decide +kernel
theorem dX10_send_39 : decode cX10_send 39 = .ok (.iload_n 3, 1) := by decide +kernel
theorem dX10_send_40 : decode cX10_send 40 = .ok (.iload 4, 2) := by decide +kernel
theorem dX10_send_42 : decode cX10_send 42 = .ok (.iload 5, 2) := by decide +kernel
theorem dX10_send_44 : decode cX10_send 44 = .ok (.invokevirtual 92, 3) := by decide +kernel
theorem dX10_send_47 : decode cX10_send 47 = .ok (.aload_n 0, 1) := by decide +kernel
theorem dX10_send_48 : decode cX10_send 48 = .ok (.getfield 33, 3) := by decide +kernel
theorem dX10_send_51 : decode cX10_send 51 = .ok (.invokevirtual 96, 3) := by decide +kernel
theorem dX10_send_54 : decode cX10_send 54 = .ok (.iconst 1, 1) := by decide +kernel
theorem dX10_send_55 : decode cX10_send 55 = .ok (.ireturn, 1) := by decide +kernel
theorem dX10_trouble_0 : decode cX10_trouble 0 = .ok (.aload_n 0, 1) := by decide +kernel
theorem dX10_trouble_1 : decode cX10_trouble 1 = .ok (.iload_n 1, 1) := by decide +kernel
theorem dX10_trouble_2 : decode cX10_trouble 2 = .ok (.invokevirtual 53, 3) := by decide +kernel
theorem dX10_trouble_5 : decode cX10_trouble 5 = .ok (.astore 5, 2) := by decide +kernel
theorem dX10_trouble_7 : decode cX10_trouble 7 = .ok (.aload 5, 2) := by decide +kernel
theorem dX10_trouble_9 : decode cX10_trouble 9 = .ok (.ifnull 13, 3) := by decide +kernel
theorem dX10_trouble_12 : decode cX10_trouble 12 = .ok (.iload_n 2, 1) := by decide +kernel
theorem dX10_trouble_13 : decode cX10_trouble 13 = .ok (.ifCond .lt 9, 3) := by decide +kernel
theorem dX10_trouble_16 : decode cX10_trouble 16 = .ok (.iload_n 2, 1) := by decide +kernel
theorem dX10_trouble_17 : decode cX10_trouble 17 = .ok (.ldc 100, 2) := by decide +kernel
theorem dX10_trouble_19 : decode cX10_trouble 19 = .ok (.if_icmp .le 5, 3) := by decide +kernel
theorem dX10_trouble_22 : decode cX10_trouble 22 = .ok (.iconst (-1), 1) := by decide +kernel
theorem dX10_trouble_23 : decode cX10_trouble 23 = .ok (.ireturn, 1) := by decide +kernel
theorem dX10_trouble_24 : decode cX10_trouble 24 = .ok (.iload_n 3, 1) := by decide +kernel
theorem dX10_trouble_25 : decode cX10_trouble 25 = .ok (.ifCond .lt 21, 3) := by decide +kernel
theorem dX10_trouble_28 : decode cX10_trouble 28 = .ok (.iload_n 3, 1) := by decide +kernel
theorem dX10_trouble_29 : decode cX10_trouble 29 = .ok (.bipush 31, 2) := by decide +kernel
theorem dX10_trouble_31 : decode cX10_trouble 31 = .ok (.if_icmp .gt 15, 3) := by decide +kernel
theorem dX10_trouble_34 : decode cX10_trouble 34 = .ok (.iload 4, 2) := by decide +kernel
theorem dX10_trouble_36 : decode cX10_trouble 36 = .ok (.ifCond .lt 10, 3) := by decide +kernel
theorem dX10_trouble_39 : decode cX10_trouble 39 = .ok (.iload 4, 2) := by decide +kernel
theorem dX10_trouble_41 : decode cX10_trouble 41 = .ok (.bipush 127, 2) := by decide +kernel
theorem dX10_trouble_43 : decode cX10_trouble 43 = .ok (.if_icmp .le 5, 3) := by decide +kernel
theorem dX10_trouble_46 : decode cX10_trouble 46 = .ok (.iconst (-1), 1) := by decide +kernel
theorem dX10_trouble_47 : decode cX10_trouble 47 = .ok (.ireturn, 1) := by decide +kernel
theorem dX10_trouble_48 : decode cX10_trouble 48 = .ok (.aload 5, 2) := by decide +kernel
theorem dX10_trouble_50 : decode cX10_trouble 50 = .ok (.iload_n 2, 1) := by decide +kernel
theorem dX10_trouble_51 : decode cX10_trouble 51 = .ok (.iload_n 3, 1) := by decide +kernel
theorem dX10_trouble_52 : decode cX10_trouble 52 = .ok (.iload 4, 2) := by decide +kernel
theorem dX10_trouble_54 : decode cX10_trouble 54 = .ok (.invokevirtual 101, 3) := by decide +kernel
theorem dX10_trouble_57 : decode cX10_trouble 57 = .ok (.ireturn, 1) := by decide +kernel
theorem dX10_tell_0 : decode cX10_tell 0 = .ok (.aload_n 0, 1) := by decide +kernel
theorem dX10_tell_1 : decode cX10_tell 1 = .ok (.iload_n 1, 1) := by decide +kernel
theorem dX10_tell_2 : decode cX10_tell 2 = .ok (.invokevirtual 53, 3) := by decide +kernel
theorem dX10_tell_5 : decode cX10_tell 5 = .ok (.astore_n 2, 1) := by decide +kernel
theorem dX10_tell_6 : decode cX10_tell 6 = .ok (.aload_n 2, 1) := by decide +kernel
theorem dX10_tell_7 : decode cX10_tell 7 = .ok (.ifnull 10, 3) := by decide +kernel
theorem dX10_tell_10 : decode cX10_tell 10 = .ok (.aload_n 2, 1) := by decide +kernel
theorem dX10_tell_11 : decode cX10_tell 11 = .ok (.invokevirtual 84, 3) := by decide +kernel
theorem dX10_tell_14 : decode cX10_tell 14 = .ok (.ifCond .ne 5, 3) := by decide +kernel
theorem dX10_tell_17 : decode cX10_tell 17 = .ok (.iconst 0, 1) := by decide +kernel
theorem dX10_tell_18 : decode cX10_tell 18 = .ok (.ireturn, 1) := by decide +kernel
theorem dX10_tell_19 : decode cX10_tell 19 = .ok (.aload_n 2, 1) := by decide +kernel
theorem dX10_tell_20 : decode cX10_tell 20 = .ok (.aload_n 0, 1) := by decide +kernel
theorem dX10_tell_21 : decode cX10_tell 21 = .ok (.getfield 18, 3) := by decide +kernel
theorem dX10_tell_24 : decode cX10_tell 24 = .ok (.aload_n 2, 1) := by decide +kernel
theorem dX10_tell_25 : decode cX10_tell 25 = .ok (.invokevirtual 105, 3) := by decide +kernel
theorem dX10_tell_28 : decode cX10_tell 28 = .ok (.invokevirtual 109, 3) := by decide +kernel
theorem dX10_tell_31 : decode cX10_tell 31 = .ok (.aload_n 0, 1) := by decide +kernel
theorem dX10_tell_32 : decode cX10_tell 32 = .ok (.getfield 33, 3) := by decide +kernel
theorem dX10_tell_35 : decode cX10_tell 35 = .ok (.invokevirtual 96, 3) := by decide +kernel
theorem dX10_tell_38 : decode cX10_tell 38 = .ok (.iconst 1, 1) := by decide +kernel
theorem dX10_tell_39 : decode cX10_tell 39 = .ok (.ireturn, 1) := by decide +kernel
theorem dX10_lose_0 : decode cX10_lose 0 = .ok (.aload_n 0, 1) := by decide +kernel
theorem dX10_lose_1 : decode cX10_lose 1 = .ok (.iload_n 1, 1) := by decide +kernel
theorem dX10_lose_2 : decode cX10_lose 2 = .ok (.invokevirtual 53, 3) := by decide +kernel
theorem dX10_lose_5 : decode cX10_lose 5 = .ok (.astore_n 3, 1) := by decide +kernel
theorem dX10_lose_6 : decode cX10_lose 6 = .ok (.aload_n 3, 1) := by decide +kernel
theorem dX10_lose_7 : decode cX10_lose 7 = .ok (.ifnull 13, 3) := by decide +kernel
theorem dX10_lose_10 : decode cX10_lose 10 = .ok (.iload_n 2, 1) := by decide +kernel
theorem dX10_lose_11 : decode cX10_lose 11 = .ok (.ifCond .lt 9, 3) := by decide +kernel
theorem dX10_lose_14 : decode cX10_lose 14 = .ok (.iload_n 2, 1) := by decide +kernel
theorem dX10_lose_15 : decode cX10_lose 15 = .ok (.bipush 50, 2) := by decide +kernel
theorem dX10_lose_17 : decode cX10_lose 17 = .ok (.if_icmp .le 5, 3) := by decide +kernel
theorem dX10_lose_20 : decode cX10_lose 20 = .ok (.iconst 0, 1) := by decide +kernel
theorem dX10_lose_21 : decode cX10_lose 21 = .ok (.ireturn, 1) := by decide +kernel
theorem dX10_lose_22 : decode cX10_lose 22 = .ok (.aload_n 3, 1) := by decide +kernel
theorem dX10_lose_23 : decode cX10_lose 23 = .ok (.iload_n 2, 1) := by decide +kernel
theorem dX10_lose_24 : decode cX10_lose 24 = .ok (.putfield 113, 3) := by decide +kernel
theorem dX10_lose_27 : decode cX10_lose 27 = .ok (.iconst 1, 1) := by decide +kernel
theorem dX10_lose_28 : decode cX10_lose 28 = .ok (.ireturn, 1) := by decide +kernel
theorem dX10_pass_0 : decode cX10_pass 0 = .ok (.iload_n 1, 1) := by decide +kernel
theorem dX10_pass_1 : decode cX10_pass 1 = .ok (.iconst 1, 1) := by decide +kernel
theorem dX10_pass_2 : decode cX10_pass 2 = .ok (.if_icmp .lt 10, 3) := by decide +kernel
theorem dX10_pass_5 : decode cX10_pass 5 = .ok (.iload_n 1, 1) := by decide +kernel
theorem dX10_pass_6 : decode cX10_pass 6 = .ok (.sipush 5000, 3) := by decide +kernel
theorem dX10_pass_9 : decode cX10_pass 9 = .ok (.if_icmp .le 5, 3) := by decide +kernel
theorem dX10_pass_12 : decode cX10_pass 12 = .ok (.iconst (-1), 1) := by decide +kernel
theorem dX10_pass_13 : decode cX10_pass 13 = .ok (.ireturn, 1) := by decide +kernel
theorem dX10_pass_14 : decode cX10_pass 14 = .ok (.aload_n 0, 1) := by decide +kernel
theorem dX10_pass_15 : decode cX10_pass 15 = .ok (.getfield 33, 3) := by decide +kernel
theorem dX10_pass_18 : decode cX10_pass 18 = .ok (.iload_n 1, 1) := by decide +kernel
theorem dX10_pass_19 : decode cX10_pass 19 = .ok (.iadd, 1) := by decide +kernel
theorem dX10_pass_20 : decode cX10_pass 20 = .ok (.istore_n 2, 1) := by decide +kernel
theorem dX10_pass_21 : decode cX10_pass 21 = .ok (.iconst 0, 1) := by decide +kernel
theorem dX10_pass_22 : decode cX10_pass 22 = .ok (.istore_n 3, 1) := by decide +kernel
theorem dX10_pass_23 : decode cX10_pass 23 = .ok (.iload_n 3, 1) := by decide +kernel
theorem dX10_pass_24 : decode cX10_pass 24 = .ok (.iload_n 1, 1) := by decide +kernel
theorem dX10_pass_25 : decode cX10_pass 25 = .ok (.if_icmp .ge 34, 3) := by decide +kernel
theorem dX10_pass_28 : decode cX10_pass 28 = .ok (.aload_n 0, 1) := by decide +kernel
theorem dX10_pass_29 : decode cX10_pass 29 = .ok (.getfield 33, 3) := by decide +kernel
theorem dX10_pass_32 : decode cX10_pass 32 = .ok (.iload_n 2, 1) := by decide +kernel
theorem dX10_pass_33 : decode cX10_pass 33 = .ok (.if_icmp .ge 26, 3) := by decide +kernel
theorem dX10_pass_36 : decode cX10_pass 36 = .ok (.aload_n 0, 1) := by decide +kernel
theorem dX10_pass_37 : decode cX10_pass 37 = .ok (.aload_n 0, 1) := by decide +kernel
theorem dX10_pass_38 : decode cX10_pass 38 = .ok (.iload_n 2, 1) := by decide +kernel
theorem dX10_pass_39 : decode cX10_pass 39 = .ok (.invokevirtual 116, 3) := by decide +kernel
theorem dX10_pass_42 : decode cX10_pass 42 = .ok (.putfield 33, 3) := by decide +kernel
theorem dX10_pass_45 : decode cX10_pass 45 = .ok (.aload_n 0, 1) := by decide +kernel
theorem dX10_pass_46 : decode cX10_pass 46 = .ok (.invokevirtual 120, 3) := by decide +kernel
theorem dX10_pass_49 : decode cX10_pass 49 = .ok (.aload_n 0, 1) := by decide +kernel
theorem dX10_pass_50 : decode cX10_pass 50 = .ok (.invokevirtual 123, 3) := by decide +kernel
theorem dX10_pass_53 : decode cX10_pass 53 = .ok (.iinc 3 1, 3) := by decide +kernel
theorem dX10_pass_56 : decode cX10_pass 56 = .ok (.goto (-33), 3) := by decide +kernel
theorem dX10_pass_59 : decode cX10_pass 59 = .ok (.aload_n 0, 1) := by decide +kernel
theorem dX10_pass_60 : decode cX10_pass 60 = .ok (.getfield 33, 3) := by decide +kernel
theorem dX10_pass_63 : decode cX10_pass 63 = .ok (.ireturn, 1) := by decide +kernel
theorem dX10_told_0 : decode cX10_told 0 = .ok (.aload_n 0, 1) := by decide +kernel
theorem dX10_told_1 : decode cX10_told 1 = .ok (.iload_n 1, 1) := by decide +kernel
theorem dX10_told_2 : decode cX10_told 2 = .ok (.invokevirtual 53, 3) := by decide +kernel
theorem dX10_told_5 : decode cX10_told 5 = .ok (.astore_n 3, 1) := by decide +kernel
theorem dX10_told_6 : decode cX10_told 6 = .ok (.aload_n 3, 1) := by decide +kernel
theorem dX10_told_7 : decode cX10_told 7 = .ok (.ifnonnull 5, 3) := by decide +kernel
theorem dX10_told_10 : decode cX10_told 10 = .ok (.iconst (-1), 1) := by decide +kernel
theorem dX10_told_11 : decode cX10_told 11 = .ok (.ireturn, 1) := by decide +kernel
theorem dX10_told_12 : decode cX10_told 12 = .ok (.iload_n 2, 1) := by decide +kernel
theorem dX10_told_13 : decode cX10_told 13 = .ok (.tableswitch 87 0 6 #[43, 48, 53, 61, 69, 77, 82], 43) := by decide +kernel
theorem dX10_told_56 : decode cX10_told 56 = .ok (.aload_n 3, 1) := by decide +kernel
theorem dX10_told_57 : decode cX10_told 57 = .ok (.getfield 57, 3) := by decide +kernel
theorem dX10_told_60 : decode cX10_told 60 = .ok (.ireturn, 1) := by decide +kernel
theorem dX10_told_61 : decode cX10_told 61 = .ok (.aload_n 3, 1) := by decide +kernel
theorem dX10_told_62 : decode cX10_told 62 = .ok (.getfield 126, 3) := by decide +kernel
theorem dX10_told_65 : decode cX10_told 65 = .ok (.ireturn, 1) := by decide +kernel
theorem dX10_told_66 : decode cX10_told 66 = .ok (.aload_n 3, 1) := by decide +kernel
theorem dX10_told_67 : decode cX10_told 67 = .ok (.getfield 74, 3) := by decide +kernel
theorem dX10_told_70 : decode cX10_told 70 = .ok (.invokevirtual 129, 3) := by decide +kernel
theorem dX10_told_73 : decode cX10_told 73 = .ok (.ireturn, 1) := by decide +kernel
theorem dX10_told_74 : decode cX10_told 74 = .ok (.aload_n 3, 1) := by decide +kernel
theorem dX10_told_75 : decode cX10_told 75 = .ok (.getfield 133, 3) := by decide +kernel
theorem dX10_told_78 : decode cX10_told 78 = .ok (.getfield 137, 3) := by decide +kernel
theorem dX10_told_81 : decode cX10_told 81 = .ok (.ireturn, 1) := by decide +kernel
theorem dX10_told_82 : decode cX10_told 82 = .ok (.aload_n 3, 1) := by decide +kernel
theorem dX10_told_83 : decode cX10_told 83 = .ok (.getfield 140, 3) := by decide +kernel
theorem dX10_told_86 : decode cX10_told 86 = .ok (.getfield 144, 3) := by decide +kernel
theorem dX10_told_89 : decode cX10_told 89 = .ok (.ireturn, 1) := by decide +kernel
theorem dX10_told_90 : decode cX10_told 90 = .ok (.aload_n 3, 1) := by decide +kernel
theorem dX10_told_91 : decode cX10_told 91 = .ok (.invokevirtual 149, 3) := by decide +kernel
theorem dX10_told_94 : decode cX10_told 94 = .ok (.ireturn, 1) := by decide +kernel
theorem dX10_told_95 : decode cX10_told 95 = .ok (.aload_n 3, 1) := by decide +kernel
theorem dX10_told_96 : decode cX10_told 96 = .ok (.getfield 152, 3) := by decide +kernel
theorem dX10_told_99 : decode cX10_told 99 = .ok (.ireturn, 1) := by decide +kernel
theorem dX10_told_100 : decode cX10_told 100 = .ok (.iconst (-1), 1) := by decide +kernel
theorem dX10_told_101 : decode cX10_told 101 = .ok (.ireturn, 1) := by decide +kernel
theorem dX10_table_0 : decode cX10_table 0 = .ok (.aload_n 0, 1) := by decide +kernel
theorem dX10_table_1 : decode cX10_table 1 = .ok (.iload_n 1, 1) := by decide +kernel
theorem dX10_table_2 : decode cX10_table 2 = .ok (.invokevirtual 53, 3) := by decide +kernel
theorem dX10_table_5 : decode cX10_table 5 = .ok (.astore_n 3, 1) := by decide +kernel
theorem dX10_table_6 : decode cX10_table 6 = .ok (.aload_n 3, 1) := by decide +kernel
theorem dX10_table_7 : decode cX10_table 7 = .ok (.ifnull 14, 3) := by decide +kernel
theorem dX10_table_10 : decode cX10_table 10 = .ok (.iload_n 2, 1) := by decide +kernel
theorem dX10_table_11 : decode cX10_table 11 = .ok (.ifCond .lt 10, 3) := by decide +kernel
theorem dX10_table_14 : decode cX10_table 14 = .ok (.iload_n 2, 1) := by decide +kernel
theorem dX10_table_15 : decode cX10_table 15 = .ok (.sipush 254, 3) := by decide +kernel
theorem dX10_table_18 : decode cX10_table 18 = .ok (.if_icmp .lt 5, 3) := by decide +kernel
theorem dX10_table_21 : decode cX10_table 21 = .ok (.iconst (-1), 1) := by decide +kernel
theorem dX10_table_22 : decode cX10_table 22 = .ok (.ireturn, 1) := by decide +kernel
theorem dX10_table_23 : decode cX10_table 23 = .ok (.aload_n 3, 1) := by decide +kernel
theorem dX10_table_24 : decode cX10_table 24 = .ok (.getfield 155, 3) := by decide +kernel
theorem dX10_table_27 : decode cX10_table 27 = .ok (.iload_n 2, 1) := by decide +kernel
theorem dX10_table_28 : decode cX10_table 28 = .ok (.invokevirtual 159, 3) := by decide +kernel
theorem dX10_table_31 : decode cX10_table 31 = .ok (.ireturn, 1) := by decide +kernel
theorem dX10_message_0 : decode cX10_message 0 = .ok (.aload_n 0, 1) := by decide +kernel
theorem dX10_message_1 : decode cX10_message 1 = .ok (.iload_n 1, 1) := by decide +kernel
theorem dX10_message_2 : decode cX10_message 2 = .ok (.invokevirtual 53, 3) := by decide +kernel
theorem dX10_message_5 : decode cX10_message 5 = .ok (.astore 4, 2) := by decide +kernel
theorem dX10_message_7 : decode cX10_message 7 = .ok (.aload 4, 2) := by decide +kernel
theorem dX10_message_9 : decode cX10_message 9 = .ok (.ifnonnull 7, 3) := by decide +kernel
theorem dX10_message_12 : decode cX10_message 12 = .ok (.iconst (-1), 1) := by decide +kernel
theorem dX10_message_13 : decode cX10_message 13 = .ok (.goto 13, 3) := by decide +kernel
theorem dX10_message_16 : decode cX10_message 16 = .ok (.aload 4, 2) := by decide +kernel
theorem dX10_message_18 : decode cX10_message 18 = .ok (.getfield 140, 3) := by decide +kernel
theorem dX10_message_21 : decode cX10_message 21 = .ok (.iload_n 2, 1) := by decide +kernel
theorem dX10_message_22 : decode cX10_message 22 = .ok (.iload_n 3, 1) := by decide +kernel
theorem dX10_message_23 : decode cX10_message 23 = .ok (.invokevirtual 164, 3) := by decide +kernel
theorem dX10_message_26 : decode cX10_message 26 = .ok (.ireturn, 1) := by decide +kernel
theorem dX10_kept_0 : decode cX10_kept 0 = .ok (.aload_n 0, 1) := by decide +kernel
theorem dX10_kept_1 : decode cX10_kept 1 = .ok (.iload_n 1, 1) := by decide +kernel
theorem dX10_kept_2 : decode cX10_kept 2 = .ok (.invokevirtual 53, 3) := by decide +kernel
theorem dX10_kept_5 : decode cX10_kept 5 = .ok (.astore 5, 2) := by decide +kernel
theorem dX10_kept_7 : decode cX10_kept 7 = .ok (.aload 5, 2) := by decide +kernel
theorem dX10_kept_9 : decode cX10_kept 9 = .ok (.ifnonnull 7, 3) := by decide +kernel
theorem dX10_kept_12 : decode cX10_kept 12 = .ok (.iconst (-1), 1) := by decide +kernel
theorem dX10_kept_13 : decode cX10_kept 13 = .ok (.goto 15, 3) := by decide +kernel
theorem dX10_kept_16 : decode cX10_kept 16 = .ok (.aload 5, 2) := by decide +kernel
theorem dX10_kept_18 : decode cX10_kept 18 = .ok (.getfield 140, 3) := by decide +kernel
theorem dX10_kept_21 : decode cX10_kept 21 = .ok (.iload_n 2, 1) := by decide +kernel
theorem dX10_kept_22 : decode cX10_kept 22 = .ok (.iload_n 3, 1) := by decide +kernel
theorem dX10_kept_23 : decode cX10_kept 23 = .ok (.iload 4, 2) := by decide +kernel
theorem dX10_kept_25 : decode cX10_kept 25 = .ok (.invokevirtual 168, 3) := by decide +kernel
theorem dX10_kept_28 : decode cX10_kept 28 = .ok (.ireturn, 1) := by decide +kernel
theorem dX10_carried_0 : decode cX10_carried 0 = .ok (.aload_n 0, 1) := by decide +kernel
theorem dX10_carried_1 : decode cX10_carried 1 = .ok (.getfield 39, 3) := by decide +kernel
theorem dX10_carried_4 : decode cX10_carried 4 = .ok (.iconst (-1), 1) := by decide +kernel
theorem dX10_carried_5 : decode cX10_carried 5 = .ok (.if_icmp .ne 14, 3) := by decide +kernel
theorem dX10_carried_8 : decode cX10_carried 8 = .ok (.iload_n 1, 1) := by decide +kernel
theorem dX10_carried_9 : decode cX10_carried 9 = .ok (.iconst 3, 1) := by decide +kernel
theorem dX10_carried_10 : decode cX10_carried 10 = .ok (.if_icmp .ne 7, 3) := by decide +kernel
theorem dX10_carried_13 : decode cX10_carried 13 = .ok (.iconst (-1), 1) := by decide +kernel
theorem dX10_carried_14 : decode cX10_carried 14 = .ok (.goto 4, 3) := by decide +kernel
theorem dX10_carried_17 : decode cX10_carried 17 = .ok (.iconst 0, 1) := by decide +kernel
theorem dX10_carried_18 : decode cX10_carried 18 = .ok (.ireturn, 1) := by decide +kernel
theorem dX10_carried_19 : decode cX10_carried 19 = .ok (.iload_n 1, 1) := by decide +kernel
theorem dX10_carried_20 : decode cX10_carried 20 = .ok (.tableswitch 61 0 3 #[32, 40, 48, 56], 32) := by decide +kernel
theorem dX10_carried_52 : decode cX10_carried 52 = .ok (.aload_n 0, 1) := by decide +kernel
theorem dX10_carried_53 : decode cX10_carried 53 = .ok (.getfield 25, 3) := by decide +kernel
theorem dX10_carried_56 : decode cX10_carried 56 = .ok (.getfield 171, 3) := by decide +kernel
theorem dX10_carried_59 : decode cX10_carried 59 = .ok (.ireturn, 1) := by decide +kernel
theorem dX10_carried_60 : decode cX10_carried 60 = .ok (.aload_n 0, 1) := by decide +kernel
theorem dX10_carried_61 : decode cX10_carried 61 = .ok (.getfield 25, 3) := by decide +kernel
theorem dX10_carried_64 : decode cX10_carried 64 = .ok (.getfield 174, 3) := by decide +kernel
theorem dX10_carried_67 : decode cX10_carried 67 = .ok (.ireturn, 1) := by decide +kernel
theorem dX10_carried_68 : decode cX10_carried 68 = .ok (.aload_n 0, 1) := by decide +kernel
theorem dX10_carried_69 : decode cX10_carried 69 = .ok (.getfield 25, 3) := by decide +kernel
theorem dX10_carried_72 : decode cX10_carried 72 = .ok (.getfield 177, 3) := by decide +kernel
theorem dX10_carried_75 : decode cX10_carried 75 = .ok (.ireturn, 1) := by decide +kernel
theorem dX10_carried_76 : decode cX10_carried 76 = .ok (.aload_n 0, 1) := by decide +kernel
theorem dX10_carried_77 : decode cX10_carried 77 = .ok (.getfield 39, 3) := by decide +kernel
theorem dX10_carried_80 : decode cX10_carried 80 = .ok (.ireturn, 1) := by decide +kernel
theorem dX10_carried_81 : decode cX10_carried 81 = .ok (.iconst 0, 1) := by decide +kernel
theorem dX10_carried_82 : decode cX10_carried 82 = .ok (.ireturn, 1) := by decide +kernel
theorem dX10_sound_0 : decode cX10_sound 0 = .ok (.aload_n 0, 1) := by decide +kernel
theorem dX10_sound_1 : decode cX10_sound 1 = .ok (.invokevirtual 180, 3) := by decide +kernel
theorem dX10_sound_4 : decode cX10_sound 4 = .ok (.ifCond .ne 17, 3) := by decide +kernel
theorem dX10_sound_7 : decode cX10_sound 7 = .ok (.aload_n 0, 1) := by decide +kernel
theorem dX10_sound_8 : decode cX10_sound 8 = .ok (.invokevirtual 183, 3) := by decide +kernel
theorem dX10_sound_11 : decode cX10_sound 11 = .ok (.ifCond .eq 14, 3) := by decide +kernel
theorem dX10_sound_14 : decode cX10_sound 14 = .ok (.aload_n 0, 1) := by decide +kernel
theorem dX10_sound_15 : decode cX10_sound 15 = .ok (.invokevirtual 186, 3) := by decide +kernel
theorem dX10_sound_18 : decode cX10_sound 18 = .ok (.ifCond .eq 7, 3) := by decide +kernel
theorem dX10_sound_21 : decode cX10_sound 21 = .ok (.iconst 1, 1) := by decide +kernel
theorem dX10_sound_22 : decode cX10_sound 22 = .ok (.goto 4, 3) := by decide +kernel
theorem dX10_sound_25 : decode cX10_sound 25 = .ok (.iconst 0, 1) := by decide +kernel
theorem dX10_sound_26 : decode cX10_sound 26 = .ok (.ireturn, 1) := by decide +kernel
theorem dX10_count_0 : decode cX10_count 0 = .ok (.iload_n 1, 1) := by decide +kernel
theorem dX10_count_1 : decode cX10_count 1 = .ok (.tableswitch 51 0 3 #[31, 36, 41, 46], 31) := by decide +kernel
theorem dX10_count_32 : decode cX10_count 32 = .ok (.aload_n 0, 1) := by decide +kernel
theorem dX10_count_33 : decode cX10_count 33 = .ok (.getfield 29, 3) := by decide +kernel
theorem dX10_count_36 : decode cX10_count 36 = .ok (.ireturn, 1) := by decide +kernel
theorem dX10_count_37 : decode cX10_count 37 = .ok (.aload_n 0, 1) := by decide +kernel
theorem dX10_count_38 : decode cX10_count 38 = .ok (.getfield 33, 3) := by decide +kernel
theorem dX10_count_41 : decode cX10_count 41 = .ok (.ireturn, 1) := by decide +kernel
theorem dX10_count_42 : decode cX10_count 42 = .ok (.aload_n 0, 1) := by decide +kernel
theorem dX10_count_43 : decode cX10_count 43 = .ok (.getfield 36, 3) := by decide +kernel
theorem dX10_count_46 : decode cX10_count 46 = .ok (.ireturn, 1) := by decide +kernel
theorem dX10_count_47 : decode cX10_count 47 = .ok (.aload_n 0, 1) := by decide +kernel
theorem dX10_count_48 : decode cX10_count 48 = .ok (.invokevirtual 189, 3) := by decide +kernel
theorem dX10_count_51 : decode cX10_count 51 = .ok (.ireturn, 1) := by decide +kernel
theorem dX10_count_52 : decode cX10_count 52 = .ok (.iconst (-1), 1) := by decide +kernel
theorem dX10_count_53 : decode cX10_count 53 = .ok (.ireturn, 1) := by decide +kernel
theorem dX10_find_0 : decode cX10_find 0 = .ok (.iload_n 1, 1) := by decide +kernel
theorem dX10_find_1 : decode cX10_find 1 = .ok (.ifCond .lt 26, 3) := by decide +kernel
theorem dX10_find_4 : decode cX10_find 4 = .ok (.iload_n 1, 1) := by decide +kernel
theorem dX10_find_5 : decode cX10_find 5 = .ok (.aload_n 0, 1) := by decide +kernel
theorem dX10_find_6 : decode cX10_find 6 = .ok (.getfield 29, 3) := by decide +kernel
theorem dX10_find_9 : decode cX10_find 9 = .ok (.if_icmp .ge 18, 3) := by decide +kernel
theorem dX10_find_12 : decode cX10_find 12 = .ok (.iload_n 1, 1) := by decide +kernel
theorem dX10_find_13 : decode cX10_find 13 = .ok (.bipush 8, 2) := by decide +kernel
theorem dX10_find_15 : decode cX10_find 15 = .ok (.if_icmp .ge 12, 3) := by decide +kernel
theorem dX10_find_18 : decode cX10_find 18 = .ok (.aload_n 0, 1) := by decide +kernel
theorem dX10_find_19 : decode cX10_find 19 = .ok (.getfield 11, 3) := by decide +kernel
theorem dX10_find_22 : decode cX10_find 22 = .ok (.iload_n 1, 1) := by decide +kernel
theorem dX10_find_23 : decode cX10_find 23 = .ok (.aaload, 1) := by decide +kernel
theorem dX10_find_24 : decode cX10_find 24 = .ok (.goto 4, 3) := by decide +kernel
theorem dX10_find_27 : decode cX10_find 27 = .ok (.aconst_null, 1) := by decide +kernel
theorem dX10_find_28 : decode cX10_find 28 = .ok (.areturn, 1) := by decide +kernel
theorem dX10_nameIsThere_0 : decode cX10_nameIsThere 0 = .ok (.iconst 0, 1) := by decide +kernel
theorem dX10_nameIsThere_1 : decode cX10_nameIsThere 1 = .ok (.istore_n 3, 1) := by decide +kernel
theorem dX10_nameIsThere_2 : decode cX10_nameIsThere 2 = .ok (.iload_n 3, 1) := by decide +kernel
theorem dX10_nameIsThere_3 : decode cX10_nameIsThere 3 = .ok (.aload_n 0, 1) := by decide +kernel
theorem dX10_nameIsThere_4 : decode cX10_nameIsThere 4 = .ok (.getfield 29, 3) := by decide +kernel
theorem dX10_nameIsThere_7 : decode cX10_nameIsThere 7 = .ok (.if_icmp .ge 41, 3) := by decide +kernel
theorem dX10_nameIsThere_10 : decode cX10_nameIsThere 10 = .ok (.aload_n 0, 1) := by decide +kernel
theorem dX10_nameIsThere_11 : decode cX10_nameIsThere 11 = .ok (.iload_n 3, 1) := by decide +kernel
theorem dX10_nameIsThere_12 : decode cX10_nameIsThere 12 = .ok (.invokevirtual 53, 3) := by decide +kernel
theorem dX10_nameIsThere_15 : decode cX10_nameIsThere 15 = .ok (.astore 4, 2) := by decide +kernel
theorem dX10_nameIsThere_17 : decode cX10_nameIsThere 17 = .ok (.aload 4, 2) := by decide +kernel
theorem dX10_nameIsThere_19 : decode cX10_nameIsThere 19 = .ok (.ifnull 23, 3) := by decide +kernel
theorem dX10_nameIsThere_22 : decode cX10_nameIsThere 22 = .ok (.aload 4, 2) := by decide +kernel
theorem dX10_nameIsThere_24 : decode cX10_nameIsThere 24 = .ok (.getfield 192, 3) := by decide +kernel
theorem dX10_nameIsThere_27 : decode cX10_nameIsThere 27 = .ok (.iload_n 1, 1) := by decide +kernel
theorem dX10_nameIsThere_28 : decode cX10_nameIsThere 28 = .ok (.if_icmp .ne 14, 3) := by decide +kernel
theorem dX10_nameIsThere_31 : decode cX10_nameIsThere 31 = .ok (.aload 4, 2) := by decide +kernel
theorem dX10_nameIsThere_33 : decode cX10_nameIsThere 33 = .ok (.getfield 195, 3) := by decide +kernel
theorem dX10_nameIsThere_36 : decode cX10_nameIsThere 36 = .ok (.iload_n 2, 1) := by decide +kernel
theorem dX10_nameIsThere_37 : decode cX10_nameIsThere 37 = .ok (.if_icmp .ne 5, 3) := by decide +kernel
theorem dX10_nameIsThere_40 : decode cX10_nameIsThere 40 = .ok (.iconst 1, 1) := by decide +kernel
theorem dX10_nameIsThere_41 : decode cX10_nameIsThere 41 = .ok (.ireturn, 1) := by decide +kernel
theorem dX10_nameIsThere_42 : decode cX10_nameIsThere 42 = .ok (.iinc 3 1, 3) := by decide +kernel
theorem dX10_nameIsThere_45 : decode cX10_nameIsThere 45 = .ok (.goto (-43), 3) := by decide +kernel
theorem dX10_nameIsThere_48 : decode cX10_nameIsThere 48 = .ok (.iconst 0, 1) := by decide +kernel
theorem dX10_nameIsThere_49 : decode cX10_nameIsThere 49 = .ok (.ireturn, 1) := by decide +kernel
theorem dX10_nextMoment_0 : decode cX10_nextMoment 0 = .ok (.iload_n 1, 1) := by decide +kernel
theorem dX10_nextMoment_1 : decode cX10_nextMoment 1 = .ok (.istore_n 2, 1) := by decide +kernel
theorem dX10_nextMoment_2 : decode cX10_nextMoment 2 = .ok (.iconst 0, 1) := by decide +kernel
theorem dX10_nextMoment_3 : decode cX10_nextMoment 3 = .ok (.istore_n 3, 1) := by decide +kernel
theorem dX10_nextMoment_4 : decode cX10_nextMoment 4 = .ok (.iload_n 3, 1) := by decide +kernel
theorem dX10_nextMoment_5 : decode cX10_nextMoment 5 = .ok (.aload_n 0, 1) := by decide +kernel
theorem dX10_nextMoment_6 : decode cX10_nextMoment 6 = .ok (.getfield 29, 3) := by decide +kernel
theorem dX10_nextMoment_9 : decode cX10_nextMoment 9 = .ok (.if_icmp .ge 54, 3) := by decide +kernel
theorem dX10_nextMoment_12 : decode cX10_nextMoment 12 = .ok (.aload_n 0, 1) := by decide +kernel
theorem dX10_nextMoment_13 : decode cX10_nextMoment 13 = .ok (.iload_n 3, 1) := by decide +kernel
theorem dX10_nextMoment_14 : decode cX10_nextMoment 14 = .ok (.invokevirtual 53, 3) := by decide +kernel
theorem dX10_nextMoment_17 : decode cX10_nextMoment 17 = .ok (.astore 4, 2) := by decide +kernel
theorem dX10_nextMoment_19 : decode cX10_nextMoment 19 = .ok (.aload 4, 2) := by decide +kernel
theorem dX10_nextMoment_21 : decode cX10_nextMoment 21 = .ok (.ifnull 21, 3) := by decide +kernel
theorem dX10_nextMoment_24 : decode cX10_nextMoment 24 = .ok (.aload 4, 2) := by decide +kernel
theorem dX10_nextMoment_26 : decode cX10_nextMoment 26 = .ok (.getfield 74, 3) := by decide +kernel
theorem dX10_nextMoment_29 : decode cX10_nextMoment 29 = .ok (.invokevirtual 129, 3) := by decide +kernel
theorem dX10_nextMoment_32 : decode cX10_nextMoment 32 = .ok (.ifCond .le 10, 3) := by decide +kernel
theorem dX10_nextMoment_35 : decode cX10_nextMoment 35 = .ok (.aload_n 0, 1) := by decide +kernel
theorem dX10_nextMoment_36 : decode cX10_nextMoment 36 = .ok (.getfield 33, 3) := by decide +kernel
theorem dX10_nextMoment_39 : decode cX10_nextMoment 39 = .ok (.iconst 1, 1) := by decide +kernel
theorem dX10_nextMoment_40 : decode cX10_nextMoment 40 = .ok (.iadd, 1) := by decide +kernel
theorem dX10_nextMoment_41 : decode cX10_nextMoment 41 = .ok (.ireturn, 1) := by decide +kernel
theorem dX10_nextMoment_42 : decode cX10_nextMoment 42 = .ok (.aload 4, 2) := by decide +kernel
theorem dX10_nextMoment_44 : decode cX10_nextMoment 44 = .ok (.ifnull 13, 3) := by decide +kernel
theorem dX10_nextMoment_47 : decode cX10_nextMoment 47 = .ok (.iload_n 2, 1) := by decide +kernel
theorem dX10_nextMoment_48 : decode cX10_nextMoment 48 = .ok (.aload 4, 2) := by decide +kernel
theorem dX10_nextMoment_50 : decode cX10_nextMoment 50 = .ok (.invokevirtual 199, 3) := by decide +kernel
theorem dX10_nextMoment_53 : decode cX10_nextMoment 53 = .ok (.invokestatic 202, 3) := by decide +kernel
theorem dX10_nextMoment_56 : decode cX10_nextMoment 56 = .ok (.istore_n 2, 1) := by decide +kernel
theorem dX10_nextMoment_57 : decode cX10_nextMoment 57 = .ok (.iinc 3 1, 3) := by decide +kernel
theorem dX10_nextMoment_60 : decode cX10_nextMoment 60 = .ok (.goto (-56), 3) := by decide +kernel
theorem dX10_nextMoment_63 : decode cX10_nextMoment 63 = .ok (.aload_n 0, 1) := by decide +kernel
theorem dX10_nextMoment_64 : decode cX10_nextMoment 64 = .ok (.getfield 33, 3) := by decide +kernel
theorem dX10_nextMoment_67 : decode cX10_nextMoment 67 = .ok (.iconst 1, 1) := by decide +kernel
theorem dX10_nextMoment_68 : decode cX10_nextMoment 68 = .ok (.iadd, 1) := by decide +kernel
theorem dX10_nextMoment_69 : decode cX10_nextMoment 69 = .ok (.iload_n 2, 1) := by decide +kernel
theorem dX10_nextMoment_70 : decode cX10_nextMoment 70 = .ok (.invokestatic 207, 3) := by decide +kernel
theorem dX10_nextMoment_73 : decode cX10_nextMoment 73 = .ok (.ireturn, 1) := by decide +kernel
theorem dX10_runTimers_0 : decode cX10_runTimers 0 = .ok (.iconst 0, 1) := by decide +kernel
theorem dX10_runTimers_1 : decode cX10_runTimers 1 = .ok (.istore_n 1, 1) := by decide +kernel
theorem dX10_runTimers_2 : decode cX10_runTimers 2 = .ok (.iload_n 1, 1) := by decide +kernel
theorem dX10_runTimers_3 : decode cX10_runTimers 3 = .ok (.aload_n 0, 1) := by decide +kernel
theorem dX10_runTimers_4 : decode cX10_runTimers 4 = .ok (.getfield 29, 3) := by decide +kernel
theorem dX10_runTimers_7 : decode cX10_runTimers 7 = .ok (.if_icmp .ge 27, 3) := by decide +kernel
theorem dX10_runTimers_10 : decode cX10_runTimers 10 = .ok (.aload_n 0, 1) := by decide +kernel
theorem dX10_runTimers_11 : decode cX10_runTimers 11 = .ok (.iload_n 1, 1) := by decide +kernel
theorem dX10_runTimers_12 : decode cX10_runTimers 12 = .ok (.invokevirtual 53, 3) := by decide +kernel
theorem dX10_runTimers_15 : decode cX10_runTimers 15 = .ok (.astore_n 2, 1) := by decide +kernel
theorem dX10_runTimers_16 : decode cX10_runTimers 16 = .ok (.aload_n 2, 1) := by decide +kernel
theorem dX10_runTimers_17 : decode cX10_runTimers 17 = .ok (.ifnull 11, 3) := by decide +kernel
theorem dX10_runTimers_20 : decode cX10_runTimers 20 = .ok (.aload_n 2, 1) := by decide +kernel
theorem dX10_runTimers_21 : decode cX10_runTimers 21 = .ok (.aload_n 0, 1) := by decide +kernel
theorem dX10_runTimers_22 : decode cX10_runTimers 22 = .ok (.getfield 33, 3) := by decide +kernel
theorem dX10_runTimers_25 : decode cX10_runTimers 25 = .ok (.invokevirtual 210, 3) := by decide +kernel
theorem dX10_runTimers_28 : decode cX10_runTimers 28 = .ok (.iinc 1 1, 3) := by decide +kernel
theorem dX10_runTimers_31 : decode cX10_runTimers 31 = .ok (.goto (-29), 3) := by decide +kernel
theorem dX10_runTimers_34 : decode cX10_runTimers 34 = .ok (.return_, 1) := by decide +kernel
theorem dX10_carryFrame_0 : decode cX10_carryFrame 0 = .ok (.aload_n 0, 1) := by decide +kernel
theorem dX10_carryFrame_1 : decode cX10_carryFrame 1 = .ok (.invokevirtual 212, 3) := by decide +kernel
theorem dX10_carryFrame_4 : decode cX10_carryFrame 4 = .ok (.istore_n 1, 1) := by decide +kernel
theorem dX10_carryFrame_5 : decode cX10_carryFrame 5 = .ok (.aload_n 0, 1) := by decide +kernel
theorem dX10_carryFrame_6 : decode cX10_carryFrame 6 = .ok (.iload_n 1, 1) := by decide +kernel
theorem dX10_carryFrame_7 : decode cX10_carryFrame 7 = .ok (.invokevirtual 53, 3) := by decide +kernel
theorem dX10_carryFrame_10 : decode cX10_carryFrame 10 = .ok (.astore_n 2, 1) := by decide +kernel
theorem dX10_carryFrame_11 : decode cX10_carryFrame 11 = .ok (.aload_n 2, 1) := by decide +kernel
theorem dX10_carryFrame_12 : decode cX10_carryFrame 12 = .ok (.ifnonnull 4, 3) := by decide +kernel
theorem dX10_carryFrame_15 : decode cX10_carryFrame 15 = .ok (.return_, 1) := by decide +kernel
theorem dX10_carryFrame_16 : decode cX10_carryFrame 16 = .ok (.aload_n 2, 1) := by decide +kernel
theorem dX10_carryFrame_17 : decode cX10_carryFrame 17 = .ok (.aload_n 0, 1) := by decide +kernel
theorem dX10_carryFrame_18 : decode cX10_carryFrame 18 = .ok (.getfield 25, 3) := by decide +kernel
theorem dX10_carryFrame_21 : decode cX10_carryFrame 21 = .ok (.sipush 238, 3) := by decide +kernel
theorem dX10_carryFrame_24 : decode cX10_carryFrame 24 = .ok (.invokevirtual 215, 3) := by decide +kernel
theorem dX10_carryFrame_27 : decode cX10_carryFrame 27 = .ok (.aload_n 0, 1) := by decide +kernel
theorem dX10_carryFrame_28 : decode cX10_carryFrame 28 = .ok (.getfield 33, 3) := by decide +kernel
theorem dX10_carryFrame_31 : decode cX10_carryFrame 31 = .ok (.invokevirtual 218, 3) := by decide +kernel
theorem dX10_carryFrame_34 : decode cX10_carryFrame 34 = .ok (.aload_n 0, 1) := by decide +kernel
theorem dX10_carryFrame_35 : decode cX10_carryFrame 35 = .ok (.iload_n 1, 1) := by decide +kernel
theorem dX10_carryFrame_36 : decode cX10_carryFrame 36 = .ok (.putfield 39, 3) := by decide +kernel
theorem dX10_carryFrame_39 : decode cX10_carryFrame 39 = .ok (.aload_n 0, 1) := by decide +kernel
theorem dX10_carryFrame_40 : decode cX10_carryFrame 40 = .ok (.dup, 1) := by decide +kernel
theorem dX10_carryFrame_41 : decode cX10_carryFrame 41 = .ok (.getfield 36, 3) := by decide +kernel
theorem dX10_carryFrame_44 : decode cX10_carryFrame 44 = .ok (.iconst 1, 1) := by decide +kernel
theorem dX10_carryFrame_45 : decode cX10_carryFrame 45 = .ok (.iadd, 1) := by decide +kernel
theorem dX10_carryFrame_46 : decode cX10_carryFrame 46 = .ok (.putfield 36, 3) := by decide +kernel
theorem dX10_carryFrame_49 : decode cX10_carryFrame 49 = .ok (.iconst 0, 1) := by decide +kernel
theorem dX10_carryFrame_50 : decode cX10_carryFrame 50 = .ok (.istore_n 3, 1) := by decide +kernel
theorem dX10_carryFrame_51 : decode cX10_carryFrame 51 = .ok (.iload_n 3, 1) := by decide +kernel
theorem dX10_carryFrame_52 : decode cX10_carryFrame 52 = .ok (.aload_n 0, 1) := by decide +kernel
theorem dX10_carryFrame_53 : decode cX10_carryFrame 53 = .ok (.getfield 29, 3) := by decide +kernel
theorem dX10_carryFrame_56 : decode cX10_carryFrame 56 = .ok (.if_icmp .ge 48, 3) := by decide +kernel
theorem dX10_carryFrame_59 : decode cX10_carryFrame 59 = .ok (.aload_n 0, 1) := by decide +kernel
theorem dX10_carryFrame_60 : decode cX10_carryFrame 60 = .ok (.iload_n 3, 1) := by decide +kernel
theorem dX10_carryFrame_61 : decode cX10_carryFrame 61 = .ok (.invokevirtual 53, 3) := by decide +kernel
theorem dX10_carryFrame_64 : decode cX10_carryFrame 64 = .ok (.astore 4, 2) := by decide +kernel
theorem dX10_carryFrame_66 : decode cX10_carryFrame 66 = .ok (.aload 4, 2) := by decide +kernel
theorem dX10_carryFrame_68 : decode cX10_carryFrame 68 = .ok (.ifnull 30, 3) := by decide +kernel
theorem dX10_carryFrame_71 : decode cX10_carryFrame 71 = .ok (.iload_n 3, 1) := by decide +kernel
theorem dX10_carryFrame_72 : decode cX10_carryFrame 72 = .ok (.iload_n 1, 1) := by decide +kernel
theorem dX10_carryFrame_73 : decode cX10_carryFrame 73 = .ok (.if_icmp .eq 25, 3) := by decide +kernel
theorem dX10_carryFrame_76 : decode cX10_carryFrame 76 = .ok (.aload 4, 2) := by decide +kernel
theorem dX10_carryFrame_78 : decode cX10_carryFrame 78 = .ok (.getfield 57, 3) := by decide +kernel
theorem dX10_carryFrame_81 : decode cX10_carryFrame 81 = .ok (.ifCond .eq 17, 3) := by decide +kernel
theorem dX10_carryFrame_84 : decode cX10_carryFrame 84 = .ok (.aload 4, 2) := by decide +kernel
theorem dX10_carryFrame_86 : decode cX10_carryFrame 86 = .ok (.aload_n 0, 1) := by decide +kernel
theorem dX10_carryFrame_87 : decode cX10_carryFrame 87 = .ok (.getfield 25, 3) := by decide +kernel
theorem dX10_carryFrame_90 : decode cX10_carryFrame 90 = .ok (.iload_n 1, 1) := by decide +kernel
theorem dX10_carryFrame_91 : decode cX10_carryFrame 91 = .ok (.aload_n 0, 1) := by decide +kernel
theorem dX10_carryFrame_92 : decode cX10_carryFrame 92 = .ok (.getfield 33, 3) := by decide +kernel
theorem dX10_carryFrame_95 : decode cX10_carryFrame 95 = .ok (.invokevirtual 222, 3) := by decide +kernel
theorem dX10_carryFrame_98 : decode cX10_carryFrame 98 = .ok (.iinc 3 1, 3) := by decide +kernel
theorem dX10_carryFrame_101 : decode cX10_carryFrame 101 = .ok (.goto (-50), 3) := by decide +kernel
theorem dX10_carryFrame_104 : decode cX10_carryFrame 104 = .ok (.return_, 1) := by decide +kernel
theorem dX10_firstToSend_0 : decode cX10_firstToSend 0 = .ok (.iconst (-1), 1) := by decide +kernel
theorem dX10_firstToSend_1 : decode cX10_firstToSend 1 = .ok (.istore_n 1, 1) := by decide +kernel
theorem dX10_firstToSend_2 : decode cX10_firstToSend 2 = .ok (.aconst_null, 1) := by decide +kernel
theorem dX10_firstToSend_3 : decode cX10_firstToSend 3 = .ok (.astore_n 2, 1) := by decide +kernel
theorem dX10_firstToSend_4 : decode cX10_firstToSend 4 = .ok (.iconst 0, 1) := by decide +kernel
theorem dX10_firstToSend_5 : decode cX10_firstToSend 5 = .ok (.istore_n 3, 1) := by decide +kernel
theorem dX10_firstToSend_6 : decode cX10_firstToSend 6 = .ok (.iload_n 3, 1) := by decide +kernel
theorem dX10_firstToSend_7 : decode cX10_firstToSend 7 = .ok (.aload_n 0, 1) := by decide +kernel
theorem dX10_firstToSend_8 : decode cX10_firstToSend 8 = .ok (.getfield 29, 3) := by decide +kernel
theorem dX10_firstToSend_11 : decode cX10_firstToSend 11 = .ok (.if_icmp .ge 63, 3) := by decide +kernel
theorem dX10_firstToSend_14 : decode cX10_firstToSend 14 = .ok (.aload_n 0, 1) := by decide +kernel
theorem dX10_firstToSend_15 : decode cX10_firstToSend 15 = .ok (.iload_n 3, 1) := by decide +kernel
theorem dX10_firstToSend_16 : decode cX10_firstToSend 16 = .ok (.invokevirtual 53, 3) := by decide +kernel
theorem dX10_firstToSend_19 : decode cX10_firstToSend 19 = .ok (.astore 4, 2) := by decide +kernel
theorem dX10_firstToSend_21 : decode cX10_firstToSend 21 = .ok (.aload 4, 2) := by decide +kernel
theorem dX10_firstToSend_23 : decode cX10_firstToSend 23 = .ok (.ifnonnull 7, 3) := by decide +kernel
theorem dX10_firstToSend_26 : decode cX10_firstToSend 26 = .ok (.aconst_null, 1) := by decide +kernel
theorem dX10_firstToSend_27 : decode cX10_firstToSend 27 = .ok (.goto 16, 3) := by decide +kernel
theorem dX10_firstToSend_30 : decode cX10_firstToSend 30 = .ok (.aload 4, 2) := by decide +kernel
theorem dX10_firstToSend_32 : decode cX10_firstToSend 32 = .ok (.getfield 74, 3) := by decide +kernel
theorem dX10_firstToSend_35 : decode cX10_firstToSend 35 = .ok (.aload 4, 2) := by decide +kernel
theorem dX10_firstToSend_37 : decode cX10_firstToSend 37 = .ok (.getfield 126, 3) := by decide +kernel
theorem dX10_firstToSend_40 : decode cX10_firstToSend 40 = .ok (.invokevirtual 226, 3) := by decide +kernel
theorem dX10_firstToSend_43 : decode cX10_firstToSend 43 = .ok (.astore 5, 2) := by decide +kernel
theorem dX10_firstToSend_45 : decode cX10_firstToSend 45 = .ok (.aload 5, 2) := by decide +kernel
theorem dX10_firstToSend_47 : decode cX10_firstToSend 47 = .ok (.ifnull 21, 3) := by decide +kernel
theorem dX10_firstToSend_50 : decode cX10_firstToSend 50 = .ok (.aload_n 2, 1) := by decide +kernel
theorem dX10_firstToSend_51 : decode cX10_firstToSend 51 = .ok (.ifnull 12, 3) := by decide +kernel
theorem dX10_firstToSend_54 : decode cX10_firstToSend 54 = .ok (.aload 5, 2) := by decide +kernel
theorem dX10_firstToSend_56 : decode cX10_firstToSend 56 = .ok (.aload_n 2, 1) := by decide +kernel
theorem dX10_firstToSend_57 : decode cX10_firstToSend 57 = .ok (.invokevirtual 229, 3) := by decide +kernel
theorem dX10_firstToSend_60 : decode cX10_firstToSend 60 = .ok (.ifCond .eq 8, 3) := by decide +kernel
theorem dX10_firstToSend_63 : decode cX10_firstToSend 63 = .ok (.aload 5, 2) := by decide +kernel
theorem dX10_firstToSend_65 : decode cX10_firstToSend 65 = .ok (.astore_n 2, 1) := by decide +kernel
theorem dX10_firstToSend_66 : decode cX10_firstToSend 66 = .ok (.iload_n 3, 1) := by decide +kernel
theorem dX10_firstToSend_67 : decode cX10_firstToSend 67 = .ok (.istore_n 1, 1) := by decide +kernel
theorem dX10_firstToSend_68 : decode cX10_firstToSend 68 = .ok (.iinc 3 1, 3) := by decide +kernel
theorem dX10_firstToSend_71 : decode cX10_firstToSend 71 = .ok (.goto (-65), 3) := by decide +kernel
theorem dX10_firstToSend_74 : decode cX10_firstToSend 74 = .ok (.aload_n 2, 1) := by decide +kernel
theorem dX10_firstToSend_75 : decode cX10_firstToSend 75 = .ok (.ifnull 11, 3) := by decide +kernel
theorem dX10_firstToSend_78 : decode cX10_firstToSend 78 = .ok (.aload_n 0, 1) := by decide +kernel
theorem dX10_firstToSend_79 : decode cX10_firstToSend 79 = .ok (.getfield 25, 3) := by decide +kernel
theorem dX10_firstToSend_82 : decode cX10_firstToSend 82 = .ok (.aload_n 2, 1) := by decide +kernel
theorem dX10_firstToSend_83 : decode cX10_firstToSend 83 = .ok (.invokevirtual 233, 3) := by decide +kernel
theorem dX10_firstToSend_86 : decode cX10_firstToSend 86 = .ok (.iload_n 1, 1) := by decide +kernel
theorem dX10_firstToSend_87 : decode cX10_firstToSend 87 = .ok (.ireturn, 1) := by decide +kernel
theorem dX10_isDisturbed_0 : decode cX10_isDisturbed 0 = .ok (.iconst 0, 1) := by decide +kernel
theorem dX10_isDisturbed_1 : decode cX10_isDisturbed 1 = .ok (.istore_n 1, 1) := by decide +kernel
theorem dX10_isDisturbed_2 : decode cX10_isDisturbed 2 = .ok (.iload_n 1, 1) := by decide +kernel
theorem dX10_isDisturbed_3 : decode cX10_isDisturbed 3 = .ok (.aload_n 0, 1) := by decide +kernel
theorem dX10_isDisturbed_4 : decode cX10_isDisturbed 4 = .ok (.getfield 29, 3) := by decide +kernel
theorem dX10_isDisturbed_7 : decode cX10_isDisturbed 7 = .ok (.if_icmp .ge 28, 3) := by decide +kernel
theorem dX10_isDisturbed_10 : decode cX10_isDisturbed 10 = .ok (.aload_n 0, 1) := by decide +kernel
theorem dX10_isDisturbed_11 : decode cX10_isDisturbed 11 = .ok (.iload_n 1, 1) := by decide +kernel
theorem dX10_isDisturbed_12 : decode cX10_isDisturbed 12 = .ok (.invokevirtual 53, 3) := by decide +kernel
theorem dX10_isDisturbed_15 : decode cX10_isDisturbed 15 = .ok (.astore_n 2, 1) := by decide +kernel
theorem dX10_isDisturbed_16 : decode cX10_isDisturbed 16 = .ok (.aload_n 2, 1) := by decide +kernel
theorem dX10_isDisturbed_17 : decode cX10_isDisturbed 17 = .ok (.ifnull 12, 3) := by decide +kernel
theorem dX10_isDisturbed_20 : decode cX10_isDisturbed 20 = .ok (.aload_n 2, 1) := by decide +kernel
theorem dX10_isDisturbed_21 : decode cX10_isDisturbed 21 = .ok (.getfield 152, 3) := by decide +kernel
theorem dX10_isDisturbed_24 : decode cX10_isDisturbed 24 = .ok (.ifCond .le 5, 3) := by decide +kernel
theorem dX10_isDisturbed_27 : decode cX10_isDisturbed 27 = .ok (.iconst 1, 1) := by decide +kernel
theorem dX10_isDisturbed_28 : decode cX10_isDisturbed 28 = .ok (.ireturn, 1) := by decide +kernel
theorem dX10_isDisturbed_29 : decode cX10_isDisturbed 29 = .ok (.iinc 1 1, 3) := by decide +kernel
theorem dX10_isDisturbed_32 : decode cX10_isDisturbed 32 = .ok (.goto (-30), 3) := by decide +kernel
theorem dX10_isDisturbed_35 : decode cX10_isDisturbed 35 = .ok (.aload_n 0, 1) := by decide +kernel
theorem dX10_isDisturbed_36 : decode cX10_isDisturbed 36 = .ok (.getfield 42, 3) := by decide +kernel
theorem dX10_isDisturbed_39 : decode cX10_isDisturbed 39 = .ok (.ireturn, 1) := by decide +kernel
theorem dX10_addressesAreApart_0 : decode cX10_addressesAreApart 0 = .ok (.iconst 0, 1) := by decide +kernel
theorem dX10_addressesAreApart_1 : decode cX10_addressesAreApart 1 = .ok (.istore_n 1, 1) := by decide +kernel
theorem dX10_addressesAreApart_2 : decode cX10_addressesAreApart 2 = .ok (.iload_n 1, 1) := by decide +kernel
theorem dX10_addressesAreApart_3 : decode cX10_addressesAreApart 3 = .ok (.aload_n 0, 1) := by decide +kernel
theorem dX10_addressesAreApart_4 : decode cX10_addressesAreApart 4 = .ok (.getfield 29, 3) := by decide +kernel
theorem dX10_addressesAreApart_7 : decode cX10_addressesAreApart 7 = .ok (.if_icmp .ge 55, 3) := by decide +kernel
theorem dX10_addressesAreApart_10 : decode cX10_addressesAreApart 10 = .ok (.iconst 0, 1) := by decide +kernel
theorem dX10_addressesAreApart_11 : decode cX10_addressesAreApart 11 = .ok (.istore_n 2, 1) := by decide +kernel
theorem dX10_addressesAreApart_12 : decode cX10_addressesAreApart 12 = .ok (.iload_n 2, 1) := by decide +kernel
theorem dX10_addressesAreApart_13 : decode cX10_addressesAreApart 13 = .ok (.iload_n 1, 1) := by decide +kernel
theorem dX10_addressesAreApart_14 : decode cX10_addressesAreApart 14 = .ok (.if_icmp .ge 42, 3) := by decide +kernel
theorem dX10_addressesAreApart_17 : decode cX10_addressesAreApart 17 = .ok (.aload_n 0, 1) := by decide +kernel
theorem dX10_addressesAreApart_18 : decode cX10_addressesAreApart 18 = .ok (.iload_n 1, 1) := by decide +kernel
theorem dX10_addressesAreApart_19 : decode cX10_addressesAreApart 19 = .ok (.invokevirtual 53, 3) := by decide +kernel
theorem dX10_addressesAreApart_22 : decode cX10_addressesAreApart 22 = .ok (.astore_n 3, 1) := by decide +kernel
theorem dX10_addressesAreApart_23 : decode cX10_addressesAreApart 23 = .ok (.aload_n 0, 1) := by decide +kernel
theorem dX10_addressesAreApart_24 : decode cX10_addressesAreApart 24 = .ok (.iload_n 2, 1) := by decide +kernel
theorem dX10_addressesAreApart_25 : decode cX10_addressesAreApart 25 = .ok (.invokevirtual 53, 3) := by decide +kernel
theorem dX10_addressesAreApart_28 : decode cX10_addressesAreApart 28 = .ok (.astore 4, 2) := by decide +kernel
theorem dX10_addressesAreApart_30 : decode cX10_addressesAreApart 30 = .ok (.aload_n 3, 1) := by decide +kernel
theorem dX10_addressesAreApart_31 : decode cX10_addressesAreApart 31 = .ok (.ifnull 19, 3) := by decide +kernel
theorem dX10_addressesAreApart_34 : decode cX10_addressesAreApart 34 = .ok (.aload 4, 2) := by decide +kernel
theorem dX10_addressesAreApart_36 : decode cX10_addressesAreApart 36 = .ok (.ifnull 14, 3) := by decide +kernel
theorem dX10_addressesAreApart_39 : decode cX10_addressesAreApart 39 = .ok (.aload_n 3, 1) := by decide +kernel
theorem dX10_addressesAreApart_40 : decode cX10_addressesAreApart 40 = .ok (.aload 4, 2) := by decide +kernel
theorem dX10_addressesAreApart_42 : decode cX10_addressesAreApart 42 = .ok (.invokevirtual 237, 3) := by decide +kernel
theorem dX10_addressesAreApart_45 : decode cX10_addressesAreApart 45 = .ok (.ifCond .eq 5, 3) := by decide +kernel
theorem dX10_addressesAreApart_48 : decode cX10_addressesAreApart 48 = .ok (.iconst 0, 1) := by decide +kernel
theorem dX10_addressesAreApart_49 : decode cX10_addressesAreApart 49 = .ok (.ireturn, 1) := by decide +kernel
theorem dX10_addressesAreApart_50 : decode cX10_addressesAreApart 50 = .ok (.iinc 2 1, 3) := by decide +kernel
theorem dX10_addressesAreApart_53 : decode cX10_addressesAreApart 53 = .ok (.goto (-41), 3) := by decide +kernel
theorem dX10_addressesAreApart_56 : decode cX10_addressesAreApart 56 = .ok (.iinc 1 1, 3) := by decide +kernel
theorem dX10_addressesAreApart_59 : decode cX10_addressesAreApart 59 = .ok (.goto (-57), 3) := by decide +kernel
theorem dX10_addressesAreApart_62 : decode cX10_addressesAreApart 62 = .ok (.iconst 1, 1) := by decide +kernel
theorem dX10_addressesAreApart_63 : decode cX10_addressesAreApart 63 = .ok (.ireturn, 1) := by decide +kernel
theorem dX10_messagesAreTrue_0 : decode cX10_messagesAreTrue 0 = .ok (.iconst 0, 1) := by decide +kernel
theorem dX10_messagesAreTrue_1 : decode cX10_messagesAreTrue 1 = .ok (.istore_n 1, 1) := by decide +kernel
theorem dX10_messagesAreTrue_2 : decode cX10_messagesAreTrue 2 = .ok (.iload_n 1, 1) := by decide +kernel
theorem dX10_messagesAreTrue_3 : decode cX10_messagesAreTrue 3 = .ok (.aload_n 0, 1) := by decide +kernel
theorem dX10_messagesAreTrue_4 : decode cX10_messagesAreTrue 4 = .ok (.getfield 29, 3) := by decide +kernel
theorem dX10_messagesAreTrue_7 : decode cX10_messagesAreTrue 7 = .ok (.if_icmp .ge 31, 3) := by decide +kernel
theorem dX10_messagesAreTrue_10 : decode cX10_messagesAreTrue 10 = .ok (.aload_n 0, 1) := by decide +kernel
theorem dX10_messagesAreTrue_11 : decode cX10_messagesAreTrue 11 = .ok (.iload_n 1, 1) := by decide +kernel
theorem dX10_messagesAreTrue_12 : decode cX10_messagesAreTrue 12 = .ok (.invokevirtual 53, 3) := by decide +kernel
theorem dX10_messagesAreTrue_15 : decode cX10_messagesAreTrue 15 = .ok (.astore_n 2, 1) := by decide +kernel
theorem dX10_messagesAreTrue_16 : decode cX10_messagesAreTrue 16 = .ok (.aload_n 2, 1) := by decide +kernel
theorem dX10_messagesAreTrue_17 : decode cX10_messagesAreTrue 17 = .ok (.ifnull 15, 3) := by decide +kernel
theorem dX10_messagesAreTrue_20 : decode cX10_messagesAreTrue 20 = .ok (.aload_n 2, 1) := by decide +kernel
theorem dX10_messagesAreTrue_21 : decode cX10_messagesAreTrue 21 = .ok (.getfield 140, 3) := by decide +kernel
theorem dX10_messagesAreTrue_24 : decode cX10_messagesAreTrue 24 = .ok (.getfield 241, 3) := by decide +kernel
theorem dX10_messagesAreTrue_27 : decode cX10_messagesAreTrue 27 = .ok (.ifCond .eq 5, 3) := by decide +kernel
theorem dX10_messagesAreTrue_30 : decode cX10_messagesAreTrue 30 = .ok (.iconst 0, 1) := by decide +kernel
theorem dX10_messagesAreTrue_31 : decode cX10_messagesAreTrue 31 = .ok (.ireturn, 1) := by decide +kernel
theorem dX10_messagesAreTrue_32 : decode cX10_messagesAreTrue 32 = .ok (.iinc 1 1, 3) := by decide +kernel
theorem dX10_messagesAreTrue_35 : decode cX10_messagesAreTrue 35 = .ok (.goto (-33), 3) := by decide +kernel
theorem dX10_messagesAreTrue_38 : decode cX10_messagesAreTrue 38 = .ok (.iconst 1, 1) := by decide +kernel
theorem dX10_messagesAreTrue_39 : decode cX10_messagesAreTrue 39 = .ok (.ireturn, 1) := by decide +kernel
theorem dX10_nodesWithAddress_0 : decode cX10_nodesWithAddress 0 = .ok (.iconst 0, 1) := by decide +kernel
theorem dX10_nodesWithAddress_1 : decode cX10_nodesWithAddress 1 = .ok (.istore_n 1, 1) := by decide +kernel
theorem dX10_nodesWithAddress_2 : decode cX10_nodesWithAddress 2 = .ok (.iconst 0, 1) := by decide +kernel
theorem dX10_nodesWithAddress_3 : decode cX10_nodesWithAddress 3 = .ok (.istore_n 2, 1) := by decide +kernel
theorem dX10_nodesWithAddress_4 : decode cX10_nodesWithAddress 4 = .ok (.iload_n 2, 1) := by decide +kernel
theorem dX10_nodesWithAddress_5 : decode cX10_nodesWithAddress 5 = .ok (.aload_n 0, 1) := by decide +kernel
theorem dX10_nodesWithAddress_6 : decode cX10_nodesWithAddress 6 = .ok (.getfield 29, 3) := by decide +kernel
theorem dX10_nodesWithAddress_9 : decode cX10_nodesWithAddress 9 = .ok (.if_icmp .ge 30, 3) := by decide +kernel
theorem dX10_nodesWithAddress_12 : decode cX10_nodesWithAddress 12 = .ok (.aload_n 0, 1) := by decide +kernel
theorem dX10_nodesWithAddress_13 : decode cX10_nodesWithAddress 13 = .ok (.iload_n 2, 1) := by decide +kernel
theorem dX10_nodesWithAddress_14 : decode cX10_nodesWithAddress 14 = .ok (.invokevirtual 53, 3) := by decide +kernel
theorem dX10_nodesWithAddress_17 : decode cX10_nodesWithAddress 17 = .ok (.astore_n 3, 1) := by decide +kernel
theorem dX10_nodesWithAddress_18 : decode cX10_nodesWithAddress 18 = .ok (.aload_n 3, 1) := by decide +kernel
theorem dX10_nodesWithAddress_19 : decode cX10_nodesWithAddress 19 = .ok (.ifnull 14, 3) := by decide +kernel
theorem dX10_nodesWithAddress_22 : decode cX10_nodesWithAddress 22 = .ok (.aload_n 3, 1) := by decide +kernel
theorem dX10_nodesWithAddress_23 : decode cX10_nodesWithAddress 23 = .ok (.getfield 57, 3) := by decide +kernel
theorem dX10_nodesWithAddress_26 : decode cX10_nodesWithAddress 26 = .ok (.iconst 2, 1) := by decide +kernel
theorem dX10_nodesWithAddress_27 : decode cX10_nodesWithAddress 27 = .ok (.if_icmp .ne 6, 3) := by decide +kernel
theorem dX10_nodesWithAddress_30 : decode cX10_nodesWithAddress 30 = .ok (.iinc 1 1, 3) := by decide +kernel
theorem dX10_nodesWithAddress_33 : decode cX10_nodesWithAddress 33 = .ok (.iinc 2 1, 3) := by decide +kernel
theorem dX10_nodesWithAddress_36 : decode cX10_nodesWithAddress 36 = .ok (.goto (-32), 3) := by decide +kernel
theorem dX10_nodesWithAddress_39 : decode cX10_nodesWithAddress 39 = .ok (.iload_n 1, 1) := by decide +kernel
theorem dX10_nodesWithAddress_40 : decode cX10_nodesWithAddress 40 = .ok (.ireturn, 1) := by decide +kernel
theorem dX11_init_0 : decode cX11_init 0 = .ok (.aload_n 0, 1) := by decide +kernel
theorem dX11_init_1 : decode cX11_init 1 = .ok (.invokespecial 1, 3) := by decide +kernel
theorem dX11_init_4 : decode cX11_init 4 = .ok (.aload_n 0, 1) := by decide +kernel
theorem dX11_init_5 : decode cX11_init 5 = .ok (.bipush 8, 2) := by decide +kernel
theorem dX11_init_7 : decode cX11_init 7 = .ok (.newarray .long, 2) := by decide +kernel
theorem dX11_init_9 : decode cX11_init 9 = .ok (.putfield 7, 3) := by decide +kernel
theorem dX11_init_12 : decode cX11_init 12 = .ok (.aload_n 0, 1) := by decide +kernel
theorem dX11_init_13 : decode cX11_init 13 = .ok (.bipush 8, 2) := by decide +kernel
theorem dX11_init_15 : decode cX11_init 15 = .ok (.newarray .int, 2) := by decide +kernel
theorem dX11_init_17 : decode cX11_init 17 = .ok (.putfield 13, 3) := by decide +kernel
theorem dX11_init_20 : decode cX11_init 20 = .ok (.aload_n 0, 1) := by decide +kernel
theorem dX11_init_21 : decode cX11_init 21 = .ok (.bipush 8, 2) := by decide +kernel
theorem dX11_init_23 : decode cX11_init 23 = .ok (.newarray .int, 2) := by decide +kernel
theorem dX11_init_25 : decode cX11_init 25 = .ok (.putfield 17, 3) := by decide +kernel
theorem dX11_init_28 : decode cX11_init 28 = .ok (.aload_n 0, 1) := by decide +kernel
theorem dX11_init_29 : decode cX11_init 29 = .ok (.bipush 8, 2) := by decide +kernel
theorem dX11_init_31 : decode cX11_init 31 = .ok (.newarray .boolean, 2) := by decide +kernel
theorem dX11_init_33 : decode cX11_init 33 = .ok (.putfield 20, 3) := by decide +kernel
theorem dX11_init_36 : decode cX11_init 36 = .ok (.aload_n 0, 1) := by decide +kernel
theorem dX11_init_37 : decode cX11_init 37 = .ok (.bipush 8, 2) := by decide +kernel
theorem dX11_init_39 : decode cX11_init 39 = .ok (.newarray .int, 2) := by decide +kernel
theorem dX11_init_41 : decode cX11_init 41 = .ok (.putfield 24, 3) := by decide +kernel
theorem dX11_init_44 : decode cX11_init 44 = .ok (.aload_n 0, 1) := by decide +kernel
theorem dX11_init_45 : decode cX11_init 45 = .ok (.bipush 8, 2) := by decide +kernel
theorem dX11_init_47 : decode cX11_init 47 = .ok (.newarray .int, 2) := by decide +kernel
theorem dX11_init_49 : decode cX11_init 49 = .ok (.putfield 27, 3) := by decide +kernel
theorem dX11_init_52 : decode cX11_init 52 = .ok (.aload_n 0, 1) := by decide +kernel
theorem dX11_init_53 : decode cX11_init 53 = .ok (.bipush 8, 2) := by decide +kernel
theorem dX11_init_55 : decode cX11_init 55 = .ok (.newarray .int, 2) := by decide +kernel
theorem dX11_init_57 : decode cX11_init 57 = .ok (.putfield 30, 3) := by decide +kernel
theorem dX11_init_60 : decode cX11_init 60 = .ok (.aload_n 0, 1) := by decide +kernel
theorem dX11_init_61 : decode cX11_init 61 = .ok (.sipush 2048, 3) := by decide +kernel
theorem dX11_init_64 : decode cX11_init 64 = .ok (.newarray .int, 2) := by decide +kernel
theorem dX11_init_66 : decode cX11_init 66 = .ok (.putfield 33, 3) := by decide +kernel
theorem dX11_init_69 : decode cX11_init 69 = .ok (.aload_n 0, 1) := by decide +kernel
theorem dX11_init_70 : decode cX11_init 70 = .ok (.bipush 8, 2) := by decide +kernel
theorem dX11_init_72 : decode cX11_init 72 = .ok (.newarray .int, 2) := by decide +kernel
theorem dX11_init_74 : decode cX11_init 74 = .ok (.putfield 36, 3) := by decide +kernel
theorem dX11_init_77 : decode cX11_init 77 = .ok (.aload_n 0, 1) := by decide +kernel
theorem dX11_init_78 : decode cX11_init 78 = .ok (.bipush 8, 2) := by decide +kernel
theorem dX11_init_80 : decode cX11_init 80 = .ok (.newarray .int, 2) := by decide +kernel
theorem dX11_init_82 : decode cX11_init 82 = .ok (.putfield 39, 3) := by decide +kernel
theorem dX11_init_85 : decode cX11_init 85 = .ok (.aload_n 0, 1) := by decide +kernel
theorem dX11_init_86 : decode cX11_init 86 = .ok (.bipush 8, 2) := by decide +kernel
theorem dX11_init_88 : decode cX11_init 88 = .ok (.newarray .int, 2) := by decide +kernel
theorem dX11_init_90 : decode cX11_init 90 = .ok (.putfield 42, 3) := by decide +kernel
theorem dX11_init_93 : decode cX11_init 93 = .ok (.aload_n 0, 1) := by decide +kernel
theorem dX11_init_94 : decode cX11_init 94 = .ok (.ldc 45, 2) := by decide +kernel
theorem dX11_init_96 : decode cX11_init 96 = .ok (.newarray .int, 2) := by decide +kernel
theorem dX11_init_98 : decode cX11_init 98 = .ok (.putfield 46, 3) := by decide +kernel
theorem dX11_init_101 : decode cX11_init 101 = .ok (.aload_n 0, 1) := by decide +kernel
theorem dX11_init_102 : decode cX11_init 102 = .ok (.ldc 45, 2) := by decide +kernel
theorem dX11_init_104 : decode cX11_init 104 = .ok (.newarray .int, 2) := by decide +kernel
theorem dX11_init_106 : decode cX11_init 106 = .ok (.putfield 49, 3) := by decide +kernel
theorem dX11_init_109 : decode cX11_init 109 = .ok (.aload_n 0, 1) := by decide +kernel
theorem dX11_init_110 : decode cX11_init 110 = .ok (.ldc 45, 2) := by decide +kernel
theorem dX11_init_112 : decode cX11_init 112 = .ok (.newarray .int, 2) := by decide +kernel
theorem dX11_init_114 : decode cX11_init 114 = .ok (.putfield 52, 3) := by decide +kernel
theorem dX11_init_117 : decode cX11_init 117 = .ok (.aload_n 0, 1) := by decide +kernel
theorem dX11_init_118 : decode cX11_init 118 = .ok (.ldc 45, 2) := by decide +kernel
theorem dX11_init_120 : decode cX11_init 120 = .ok (.newarray .int, 2) := by decide +kernel
theorem dX11_init_122 : decode cX11_init 122 = .ok (.putfield 55, 3) := by decide +kernel
theorem dX11_init_125 : decode cX11_init 125 = .ok (.aload_n 0, 1) := by decide +kernel
theorem dX11_init_126 : decode cX11_init 126 = .ok (.iconst (-1), 1) := by decide +kernel
theorem dX11_init_127 : decode cX11_init 127 = .ok (.putfield 58, 3) := by decide +kernel
theorem dX11_init_130 : decode cX11_init 130 = .ok (.aload_n 0, 1) := by decide +kernel
theorem dX11_init_131 : decode cX11_init 131 = .ok (.bipush 8, 2) := by decide +kernel
theorem dX11_init_133 : decode cX11_init 133 = .ok (.newarray .boolean, 2) := by decide +kernel
theorem dX11_init_135 : decode cX11_init 135 = .ok (.putfield 62, 3) := by decide +kernel
theorem dX11_init_138 : decode cX11_init 138 = .ok (.aload_n 0, 1) := by decide +kernel
theorem dX11_init_139 : decode cX11_init 139 = .ok (.bipush 8, 2) := by decide +kernel
theorem dX11_init_141 : decode cX11_init 141 = .ok (.newarray .int, 2) := by decide +kernel
theorem dX11_init_143 : decode cX11_init 143 = .ok (.putfield 65, 3) := by decide +kernel
theorem dX11_init_146 : decode cX11_init 146 = .ok (.aload_n 0, 1) := by decide +kernel
theorem dX11_init_147 : decode cX11_init 147 = .ok (.bipush 8, 2) := by decide +kernel
theorem dX11_init_149 : decode cX11_init 149 = .ok (.newarray .int, 2) := by decide +kernel
theorem dX11_init_151 : decode cX11_init 151 = .ok (.putfield 68, 3) := by decide +kernel
theorem dX11_init_154 : decode cX11_init 154 = .ok (.aload_n 0, 1) := by decide +kernel
theorem dX11_init_155 : decode cX11_init 155 = .ok (.bipush 8, 2) := by decide +kernel
theorem dX11_init_157 : decode cX11_init 157 = .ok (.newarray .int, 2) := by decide +kernel
theorem dX11_init_159 : decode cX11_init 159 = .ok (.putfield 71, 3) := by decide +kernel
theorem dX11_init_162 : decode cX11_init 162 = .ok (.aload_n 0, 1) := by decide +kernel
theorem dX11_init_163 : decode cX11_init 163 = .ok (.bipush 8, 2) := by decide +kernel
theorem dX11_init_165 : decode cX11_init 165 = .ok (.newarray .int, 2) := by decide +kernel
theorem dX11_init_167 : decode cX11_init 167 = .ok (.putfield 74, 3) := by decide +kernel
theorem dX11_init_170 : decode cX11_init 170 = .ok (.aload_n 0, 1) := by decide +kernel
theorem dX11_init_171 : decode cX11_init 171 = .ok (.bipush 8, 2) := by decide +kernel
theorem dX11_init_173 : decode cX11_init 173 = .ok (.newarray .int, 2) := by decide +kernel
theorem dX11_init_175 : decode cX11_init 175 = .ok (.putfield 77, 3) := by decide +kernel
theorem dX11_init_178 : decode cX11_init 178 = .ok (.aload_n 0, 1) := by decide +kernel
theorem dX11_init_179 : decode cX11_init 179 = .ok (.bipush 8, 2) := by decide +kernel
theorem dX11_init_181 : decode cX11_init 181 = .ok (.newarray .int, 2) := by decide +kernel
theorem dX11_init_183 : decode cX11_init 183 = .ok (.putfield 80, 3) := by decide +kernel
theorem dX11_init_186 : decode cX11_init 186 = .ok (.aload_n 0, 1) := by decide +kernel
theorem dX11_init_187 : decode cX11_init 187 = .ok (.sipush 14280, 3) := by decide +kernel
theorem dX11_init_190 : decode cX11_init 190 = .ok (.newarray .int, 2) := by decide +kernel
theorem dX11_init_192 : decode cX11_init 192 = .ok (.putfield 83, 3) := by decide +kernel
theorem dX11_init_195 : decode cX11_init 195 = .ok (.aload_n 0, 1) := by decide +kernel
theorem dX11_init_196 : decode cX11_init 196 = .ok (.sipush 320, 3) := by decide +kernel
theorem dX11_init_199 : decode cX11_init 199 = .ok (.newarray .int, 2) := by decide +kernel
theorem dX11_init_201 : decode cX11_init 201 = .ok (.putfield 86, 3) := by decide +kernel
theorem dX11_init_204 : decode cX11_init 204 = .ok (.aload_n 0, 1) := by decide +kernel
theorem dX11_init_205 : decode cX11_init 205 = .ok (.sipush 320, 3) := by decide +kernel
theorem dX11_init_208 : decode cX11_init 208 = .ok (.newarray .boolean, 2) := by decide +kernel
theorem dX11_init_210 : decode cX11_init 210 = .ok (.putfield 89, 3) := by decide +kernel
theorem dX11_init_213 : decode cX11_init 213 = .ok (.aload_n 0, 1) := by decide +kernel
theorem dX11_init_214 : decode cX11_init 214 = .ok (.sipush 320, 3) := by decide +kernel
theorem dX11_init_217 : decode cX11_init 217 = .ok (.newarray .int, 2) := by decide +kernel
theorem dX11_init_219 : decode cX11_init 219 = .ok (.putfield 92, 3) := by decide +kernel
theorem dX11_init_222 : decode cX11_init 222 = .ok (.aload_n 0, 1) := by decide +kernel
theorem dX11_init_223 : decode cX11_init 223 = .ok (.sipush 320, 3) := by decide +kernel
theorem dX11_init_226 : decode cX11_init 226 = .ok (.newarray .int, 2) := by decide +kernel
theorem dX11_init_228 : decode cX11_init 228 = .ok (.putfield 95, 3) := by decide +kernel
theorem dX11_init_231 : decode cX11_init 231 = .ok (.aload_n 0, 1) := by decide +kernel
theorem dX11_init_232 : decode cX11_init 232 = .ok (.sipush 320, 3) := by decide +kernel
theorem dX11_init_235 : decode cX11_init 235 = .ok (.newarray .int, 2) := by decide +kernel
theorem dX11_init_237 : decode cX11_init 237 = .ok (.putfield 98, 3) := by decide +kernel
theorem dX11_init_240 : decode cX11_init 240 = .ok (.aload_n 0, 1) := by decide +kernel
theorem dX11_init_241 : decode cX11_init 241 = .ok (.sipush 320, 3) := by decide +kernel
theorem dX11_init_244 : decode cX11_init 244 = .ok (.newarray .int, 2) := by decide +kernel
theorem dX11_init_246 : decode cX11_init 246 = .ok (.putfield 101, 3) := by decide +kernel
theorem dX11_init_249 : decode cX11_init 249 = .ok (.aload_n 0, 1) := by decide +kernel
theorem dX11_init_250 : decode cX11_init 250 = .ok (.sipush 320, 3) := by decide +kernel
theorem dX11_init_253 : decode cX11_init 253 = .ok (.newarray .int, 2) := by decide +kernel
theorem dX11_init_255 : decode cX11_init 255 = .ok (.putfield 104, 3) := by decide +kernel
theorem dX11_init_258 : decode cX11_init 258 = .ok (.aload_n 0, 1) := by decide +kernel
theorem dX11_init_259 : decode cX11_init 259 = .ok (.sipush 320, 3) := by decide +kernel
theorem dX11_init_262 : decode cX11_init 262 = .ok (.newarray .int, 2) := by decide +kernel
theorem dX11_init_264 : decode cX11_init 264 = .ok (.putfield 107, 3) := by decide +kernel
theorem dX11_init_267 : decode cX11_init 267 = .ok (.aload_n 0, 1) := by decide +kernel
theorem dX11_init_268 : decode cX11_init 268 = .ok (.sipush 320, 3) := by decide +kernel
theorem dX11_init_271 : decode cX11_init 271 = .ok (.newarray .int, 2) := by decide +kernel
theorem dX11_init_273 : decode cX11_init 273 = .ok (.putfield 110, 3) := by decide +kernel
theorem dX11_init_276 : decode cX11_init 276 = .ok (.aload_n 0, 1) := by decide +kernel
theorem dX11_init_277 : decode cX11_init 277 = .ok (.sipush 320, 3) := by decide +kernel
theorem dX11_init_280 : decode cX11_init 280 = .ok (.newarray .int, 2) := by decide +kernel
theorem dX11_init_282 : decode cX11_init 282 = .ok (.putfield 113, 3) := by decide +kernel
theorem dX11_init_285 : decode cX11_init 285 = .ok (.aload_n 0, 1) := by decide +kernel
theorem dX11_init_286 : decode cX11_init 286 = .ok (.ldc 116, 2) := by decide +kernel
theorem dX11_init_288 : decode cX11_init 288 = .ok (.newarray .int, 2) := by decide +kernel
theorem dX11_init_290 : decode cX11_init 290 = .ok (.putfield 117, 3) := by decide +kernel
theorem dX11_init_293 : decode cX11_init 293 = .ok (.aload_n 0, 1) := by decide +kernel
theorem dX11_init_294 : decode cX11_init 294 = .ok (.bipush 8, 2) := by decide +kernel
theorem dX11_init_296 : decode cX11_init 296 = .ok (.newarray .int, 2) := by decide +kernel
theorem dX11_init_298 : decode cX11_init 298 = .ok (.putfield 120, 3) := by decide +kernel
theorem dX11_init_301 : decode cX11_init 301 = .ok (.aload_n 0, 1) := by decide +kernel
theorem dX11_init_302 : decode cX11_init 302 = .ok (.sipush 640, 3) := by decide +kernel
theorem dX11_init_305 : decode cX11_init 305 = .ok (.newarray .int, 2) := by decide +kernel
theorem dX11_init_307 : decode cX11_init 307 = .ok (.putfield 123, 3) := by decide +kernel
theorem dX11_init_310 : decode cX11_init 310 = .ok (.aload_n 0, 1) := by decide +kernel
theorem dX11_init_311 : decode cX11_init 311 = .ok (.bipush 8, 2) := by decide +kernel
theorem dX11_init_313 : decode cX11_init 313 = .ok (.newarray .int, 2) := by decide +kernel
theorem dX11_init_315 : decode cX11_init 315 = .ok (.putfield 126, 3) := by decide +kernel
theorem dX11_init_318 : decode cX11_init 318 = .ok (.aload_n 0, 1) := by decide +kernel
theorem dX11_init_319 : decode cX11_init 319 = .ok (.bipush 8, 2) := by decide +kernel
theorem dX11_init_321 : decode cX11_init 321 = .ok (.newarray .int, 2) := by decide +kernel
theorem dX11_init_323 : decode cX11_init 323 = .ok (.putfield 129, 3) := by decide +kernel
theorem dX11_init_326 : decode cX11_init 326 = .ok (.aload_n 0, 1) := by decide +kernel
theorem dX11_init_327 : decode cX11_init 327 = .ok (.bipush 8, 2) := by decide +kernel
theorem dX11_init_329 : decode cX11_init 329 = .ok (.newarray .int, 2) := by decide +kernel
theorem dX11_init_331 : decode cX11_init 331 = .ok (.putfield 132, 3) := by decide +kernel
theorem dX11_init_334 : decode cX11_init 334 = .ok (.aload_n 0, 1) := by decide +kernel
theorem dX11_init_335 : decode cX11_init 335 = .ok (.sipush 240, 3) := by decide +kernel
theorem dX11_init_338 : decode cX11_init 338 = .ok (.newarray .int, 2) := by decide +kernel
theorem dX11_init_340 : decode cX11_init 340 = .ok (.putfield 135, 3) := by decide +kernel
theorem dX11_init_343 : decode cX11_init 343 = .ok (.aload_n 0, 1) := by decide +kernel
theorem dX11_init_344 : decode cX11_init 344 = .ok (.sipush 2048, 3) := by decide +kernel
theorem dX11_init_347 : decode cX11_init 347 = .ok (.newarray .int, 2) := by decide +kernel
theorem dX11_init_349 : decode cX11_init 349 = .ok (.putfield 138, 3) := by decide +kernel
theorem dX11_init_352 : decode cX11_init 352 = .ok (.aload_n 0, 1) := by decide +kernel
theorem dX11_init_353 : decode cX11_init 353 = .ok (.ldc 141, 2) := by decide +kernel
theorem dX11_init_355 : decode cX11_init 355 = .ok (.newarray .int, 2) := by decide +kernel
theorem dX11_init_357 : decode cX11_init 357 = .ok (.putfield 142, 3) := by decide +kernel
theorem dX11_init_360 : decode cX11_init 360 = .ok (.aload_n 0, 1) := by decide +kernel
theorem dX11_init_361 : decode cX11_init 361 = .ok (.iconst (-1), 1) := by decide +kernel
theorem dX11_init_362 : decode cX11_init 362 = .ok (.putfield 145, 3) := by decide +kernel
theorem dX11_init_365 : decode cX11_init 365 = .ok (.aload_n 0, 1) := by decide +kernel
theorem dX11_init_366 : decode cX11_init 366 = .ok (.sipush 4200, 3) := by decide +kernel
theorem dX11_init_369 : decode cX11_init 369 = .ok (.newarray .int, 2) := by decide +kernel
theorem dX11_init_371 : decode cX11_init 371 = .ok (.putfield 148, 3) := by decide +kernel
theorem dX11_init_374 : decode cX11_init 374 = .ok (.aload_n 0, 1) := by decide +kernel
theorem dX11_init_375 : decode cX11_init 375 = .ok (.sipush 4200, 3) := by decide +kernel
theorem dX11_init_378 : decode cX11_init 378 = .ok (.newarray .int, 2) := by decide +kernel
theorem dX11_init_380 : decode cX11_init 380 = .ok (.putfield 151, 3) := by decide +kernel
theorem dX11_init_383 : decode cX11_init 383 = .ok (.aload_n 0, 1) := by decide +kernel
theorem dX11_init_384 : decode cX11_init 384 = .ok (.sipush 4200, 3) := by decide +kernel
theorem dX11_init_387 : decode cX11_init 387 = .ok (.newarray .int, 2) := by decide +kernel
theorem dX11_init_389 : decode cX11_init 389 = .ok (.putfield 154, 3) := by decide +kernel
theorem dX11_init_392 : decode cX11_init 392 = .ok (.aload_n 0, 1) := by decide +kernel
theorem dX11_init_393 : decode cX11_init 393 = .ok (.sipush 4200, 3) := by decide +kernel
theorem dX11_init_396 : decode cX11_init 396 = .ok (.newarray .int, 2) := by decide +kernel
theorem dX11_init_398 : decode cX11_init 398 = .ok (.putfield 157, 3) := by decide +kernel
theorem dX11_init_401 : decode cX11_init 401 = .ok (.aload_n 0, 1) := by decide +kernel
theorem dX11_init_402 : decode cX11_init 402 = .ok (.bipush 8, 2) := by decide +kernel
theorem dX11_init_404 : decode cX11_init 404 = .ok (.newarray .int, 2) := by decide +kernel
theorem dX11_init_406 : decode cX11_init 406 = .ok (.putfield 160, 3) := by decide +kernel
theorem dX11_init_409 : decode cX11_init 409 = .ok (.aload_n 0, 1) := by decide +kernel
theorem dX11_init_410 : decode cX11_init 410 = .ok (.ldc 45, 2) := by decide +kernel
theorem dX11_init_412 : decode cX11_init 412 = .ok (.newarray .int, 2) := by decide +kernel
theorem dX11_init_414 : decode cX11_init 414 = .ok (.putfield 163, 3) := by decide +kernel
theorem dX11_init_417 : decode cX11_init 417 = .ok (.aload_n 0, 1) := by decide +kernel
theorem dX11_init_418 : decode cX11_init 418 = .ok (.sipush 320, 3) := by decide +kernel
theorem dX11_init_421 : decode cX11_init 421 = .ok (.newarray .int, 2) := by decide +kernel
theorem dX11_init_423 : decode cX11_init 423 = .ok (.putfield 166, 3) := by decide +kernel
theorem dX11_init_426 : decode cX11_init 426 = .ok (.aload_n 0, 1) := by decide +kernel
theorem dX11_init_427 : decode cX11_init 427 = .ok (.bipush 8, 2) := by decide +kernel
theorem dX11_init_429 : decode cX11_init 429 = .ok (.newarray .int, 2) := by decide +kernel
theorem dX11_init_431 : decode cX11_init 431 = .ok (.putfield 169, 3) := by decide +kernel
theorem dX11_init_434 : decode cX11_init 434 = .ok (.iconst 0, 1) := by decide +kernel
theorem dX11_init_435 : decode cX11_init 435 = .ok (.istore_n 1, 1) := by decide +kernel
theorem dX11_init_436 : decode cX11_init 436 = .ok (.iload_n 1, 1) := by decide +kernel
theorem dX11_init_437 : decode cX11_init 437 = .ok (.sipush 2048, 3) := by decide +kernel
theorem dX11_init_440 : decode cX11_init 440 = .ok (.if_icmp .ge 23, 3) := by decide +kernel
theorem dX11_init_443 : decode cX11_init 443 = .ok (.aload_n 0, 1) := by decide +kernel
theorem dX11_init_444 : decode cX11_init 444 = .ok (.getfield 33, 3) := by decide +kernel
theorem dX11_init_447 : decode cX11_init 447 = .ok (.iload_n 1, 1) := by decide +kernel
theorem dX11_init_448 : decode cX11_init 448 = .ok (.iconst (-1), 1) := by decide +kernel
theorem dX11_init_449 : decode cX11_init 449 = .ok (.iastore, 1) := by decide +kernel
theorem dX11_init_450 : decode cX11_init 450 = .ok (.aload_n 0, 1) := by decide +kernel
theorem dX11_init_451 : decode cX11_init 451 = .ok (.getfield 138, 3) := by decide +kernel
theorem dX11_init_454 : decode cX11_init 454 = .ok (.iload_n 1, 1) := by decide +kernel
theorem dX11_init_455 : decode cX11_init 455 = .ok (.iconst (-1), 1) := by decide +kernel
theorem dX11_init_456 : decode cX11_init 456 = .ok (.iastore, 1) := by decide +kernel
theorem dX11_init_457 : decode cX11_init 457 = .ok (.iinc 1 1, 3) := by decide +kernel
theorem dX11_init_460 : decode cX11_init 460 = .ok (.goto (-24), 3) := by decide +kernel
theorem dX11_init_463 : decode cX11_init 463 = .ok (.iconst 0, 1) := by decide +kernel
theorem dX11_init_464 : decode cX11_init 464 = .ok (.istore_n 1, 1) := by decide +kernel
theorem dX11_init_465 : decode cX11_init 465 = .ok (.iload_n 1, 1) := by decide +kernel
theorem dX11_init_466 : decode cX11_init 466 = .ok (.sipush 320, 3) := by decide +kernel
theorem dX11_init_469 : decode cX11_init 469 = .ok (.if_icmp .ge 16, 3) := by decide +kernel
theorem dX11_init_472 : decode cX11_init 472 = .ok (.aload_n 0, 1) := by decide +kernel
theorem dX11_init_473 : decode cX11_init 473 = .ok (.getfield 86, 3) := by decide +kernel
theorem dX11_init_476 : decode cX11_init 476 = .ok (.iload_n 1, 1) := by decide +kernel
theorem dX11_init_477 : decode cX11_init 477 = .ok (.iconst (-1), 1) := by decide +kernel
theorem dX11_init_478 : decode cX11_init 478 = .ok (.iastore, 1) := by decide +kernel
theorem dX11_init_479 : decode cX11_init 479 = .ok (.iinc 1 1, 3) := by decide +kernel
theorem dX11_init_482 : decode cX11_init 482 = .ok (.goto (-17), 3) := by decide +kernel
theorem dX11_init_485 : decode cX11_init 485 = .ok (.return_, 1) := by decide +kernel
theorem dX11_in_0 : decode cX11_in 0 = .ok (.iload_n 0, 1) := by decide +kernel
theorem dX11_in_1 : decode cX11_in 1 = .ok (.iload_n 1, 1) := by decide +kernel
theorem dX11_in_2 : decode cX11_in 2 = .ok (.if_icmp .lt 12, 3) := by decide +kernel
theorem dX11_in_5 : decode cX11_in 5 = .ok (.iload_n 0, 1) := by decide +kernel
theorem dX11_in_6 : decode cX11_in 6 = .ok (.iload_n 2, 1) := by decide +kernel
theorem dX11_in_7 : decode cX11_in 7 = .ok (.if_icmp .gt 7, 3) := by decide +kernel
theorem dX11_in_10 : decode cX11_in 10 = .ok (.iconst 1, 1) := by decide +kernel
theorem dX11_in_11 : decode cX11_in 11 = .ok (.goto 4, 3) := by decide +kernel
theorem dX11_in_14 : decode cX11_in 14 = .ok (.iconst 0, 1) := by decide +kernel
theorem dX11_in_15 : decode cX11_in 15 = .ok (.ireturn, 1) := by decide +kernel
theorem dX11_isNode_0 : decode cX11_isNode 0 = .ok (.iload_n 1, 1) := by decide +kernel
theorem dX11_isNode_1 : decode cX11_isNode 1 = .ok (.iconst 0, 1) := by decide +kernel
theorem dX11_isNode_2 : decode cX11_isNode 2 = .ok (.aload_n 0, 1) := by decide +kernel
theorem dX11_isNode_3 : decode cX11_isNode 3 = .ok (.getfield 172, 3) := by decide +kernel
theorem dX11_isNode_6 : decode cX11_isNode 6 = .ok (.iconst 1, 1) := by decide +kernel
theorem dX11_isNode_7 : decode cX11_isNode 7 = .ok (.isub, 1) := by decide +kernel
theorem dX11_isNode_8 : decode cX11_isNode 8 = .ok (.invokestatic 175, 3) := by decide +kernel
theorem dX11_isNode_11 : decode cX11_isNode 11 = .ok (.ireturn, 1) := by decide +kernel
theorem dX11_node_0 : decode cX11_node 0 = .ok (.iload_n 1, 1) := by decide +kernel
theorem dX11_node_1 : decode cX11_node 1 = .ok (.i2l, 1) := by decide +kernel
theorem dX11_node_2 : decode cX11_node 2 = .ok (.bipush 32, 2) := by decide +kernel
theorem dX11_node_4 : decode cX11_node 4 = .ok (.lshl, 1) := by decide +kernel
theorem dX11_node_5 : decode cX11_node 5 = .ok (.iload_n 2, 1) := by decide +kernel
theorem dX11_node_6 : decode cX11_node 6 = .ok (.i2l, 1) := by decide +kernel
theorem dX11_node_7 : decode cX11_node 7 = .ok (.ldc2_w 201, 3) := by decide +kernel
theorem dX11_node_10 : decode cX11_node 10 = .ok (.land, 1) := by decide +kernel
theorem dX11_node_11 : decode cX11_node 11 = .ok (.lor, 1) := by decide +kernel
theorem dX11_node_12 : decode cX11_node 12 = .ok (.lstore 6, 2) := by decide +kernel
theorem dX11_node_14 : decode cX11_node 14 = .ok (.iconst 0, 1) := by decide +kernel
theorem dX11_node_15 : decode cX11_node 15 = .ok (.istore 8, 2) := by decide +kernel
theorem dX11_node_17 : decode cX11_node 17 = .ok (.iconst 0, 1) := by decide +kernel
theorem dX11_node_18 : decode cX11_node 18 = .ok (.istore 9, 2) := by decide +kernel
theorem dX11_node_20 : decode cX11_node 20 = .ok (.iload 9, 2) := by decide +kernel
theorem dX11_node_22 : decode cX11_node 22 = .ok (.aload_n 0, 1) := by decide +kernel
theorem dX11_node_23 : decode cX11_node 23 = .ok (.getfield 172, 3) := by decide +kernel
theorem dX11_node_26 : decode cX11_node 26 = .ok (.if_icmp .ge 34, 3) := by decide +kernel
theorem dX11_node_29 : decode cX11_node 29 = .ok (.iload 8, 2) := by decide +kernel
theorem dX11_node_31 : decode cX11_node 31 = .ok (.ifCond .ne 16, 3) := by decide +kernel
theorem dX11_node_34 : decode cX11_node 34 = .ok (.aload_n 0, 1) := by decide +kernel
theorem dX11_node_35 : decode cX11_node 35 = .ok (.getfield 7, 3) := by decide +kernel
theorem dX11_node_38 : decode cX11_node 38 = .ok (.iload 9, 2) := by decide +kernel
theorem dX11_node_40 : decode cX11_node 40 = .ok (.laload, 1) := by decide +kernel
theorem dX11_node_41 : decode cX11_node 41 = .ok (.lload 6, 2) := by decide +kernel
theorem dX11_node_43 : decode cX11_node 43 = .ok (.lcmp, 1) := by decide +kernel
theorem dX11_node_44 : decode cX11_node 44 = .ok (.ifCond .ne 7, 3) := by decide +kernel
theorem dX11_node_47 : decode cX11_node 47 = .ok (.iconst 1, 1) := by decide +kernel
